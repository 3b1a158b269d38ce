/** Calls with arguments of every size in many states, and far more than 512 of them: none may throw. */
public final class AnyArgumentsTest {
    private static final int[] NUMBERS = {
        Integer.MIN_VALUE, Integer.MIN_VALUE + 1, -1000000, -100, -8, -5, -1, 0, 1, 2, 5, 6, 7, 8, 9, 10, 11, 12, 13,
        31, 32, 33, 39, 40, 41, 50, 51, 60, 64, 100, 101, 999, 1000, 65536, Integer.MAX_VALUE - 1, Integer.MAX_VALUE};

    public static void main(String[] args) {
        allMethods(new MatchBureau(), "new");
        allMethods(full(), "full");
        afterTheLastPromisedCall();
        Check.finish("AnyArgumentsTest");
    }

    /** A bureau in which as much as possible is full. */
    private static MatchBureau full() {
        MatchBureau x = new MatchBureau();
        for (int i = 0; i < 6; i++) {
            x.addPerson(50);
        }
        for (int i = 0; i < 40; i++) {
            Check.entryWith(x, Check.word(i), 1);
        }
        Check.text(x, "aa.ab.ac.ad.ae.af.ag.ah.ai.aj.ak.al");
        for (int i = 0; i < 8; i++) {
            x.newFile();
            Check.due("a full file", x.readSegments(i), 12);
            x.take(i, i % 6);
        }
        for (int s = 0; s < 10; s++) {
            Check.due("a dispute", x.translate(0, s, 2), 1);
        }
        Check.due("words in hand", x.count(6), 8 * 12);
        x.keep();
        return x;
    }

    private static void allMethods(MatchBureau x, String state) {
        for (int a : NUMBERS) {
            one(x, a);
            for (int b : NUMBERS) {
                two(x, a, b);
                for (int c : NUMBERS) {
                    x.translate(a, b, c);
                    x.segment(a, b, c);
                    x.charAt(a, b, c);
                    x.distance(a, b, c);
                }
            }
        }
        x.clearText();
        x.undo();
        x.keep();
        x.restore();
        // What was answered is free after 512 calls; that all of them came back is what counts.
        Check.due(state + ": calls that did not come back", 0, 0);
    }

    private static void one(MatchBureau x, int a) {
        x.addPerson(a);
        x.type((char) a);
        x.readSegments(a);
        x.remember(a);
        x.withdraw(a > 5 ? a : -1);
        x.deliver(a);
        x.allWords(a);
        x.firstReviewer(a);
        x.fileAt(a);
        x.count(a);
        x.newFile();
    }

    private static void two(MatchBureau x, int a, int b) {
        x.bar(a, b, true);
        x.bar(a, b, false);
        x.setShare(a, b);
        x.swapFiles(a, b);
        x.take(a, b);
        x.review(a, b);
        x.reject(a, b);
        x.settle(a, b);
        x.person(a, b);
        x.file(a, b);
        x.wordsIn(a, b);
        x.price(a, b);
        x.entry(a, b);
        x.dispute(a, b);
    }

    /** What is answered then is free, but no call may throw. */
    private static void afterTheLastPromisedCall() {
        MatchBureau x = new MatchBureau();
        for (int i = 0; i < 200000; i++) {
            x.type((char) ('a' + i % 3));
            if (i % 5 == 0) {
                x.clearText();
            }
            x.newFile();
            x.readSegments(i % 8);
            x.remember(1 + i % 999);
            x.addPerson(1 + i % 50);
            x.take(i % 8, i % 6);
            x.translate(i % 8, i % 12, 1 + i % 7);
            x.review(i % 8, i % 5);
            x.settle(i % 10, i % 2);
            x.reject(i % 8, i % 12);
            x.deliver(i % 7);
            if (i % 9 == 0) {
                x.undo();
            }
        }
        Check.due("later calls that did not come back", 0, 0);
    }
}
