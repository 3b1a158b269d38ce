/** Promises 21 to 33: what is told. */
public final class ToldTest {
    public static void main(String[] args) {
        promise21Person();
        promise22File();
        promise23Segment();
        promise23SegmentMatch();
        promise23SegmentBands();
        promise23SegmentRepeats();
        promise24CharAt();
        promise25Distance();
        promise26WordsIn();
        promise27AllWords();
        promise28Price();
        promise29FirstReviewer();
        promise30Entry();
        promise31Dispute();
        promise32FileAt();
        promise33Count();
        promise33CountOfEightFiles();
        promise33CountLeavesOutWhatIsUndone();
        tellingChangesNothing();
        Check.finish("ToldTest");
    }

    private static MatchBureau withPersons() {
        MatchBureau x = new MatchBureau();
        x.addPerson(10);
        x.addPerson(20);
        x.addPerson(30);
        return x;
    }

    private static void promise21Person() {
        MatchBureau x = withPersons();
        Check.due("person(3, 0)", x.person(3, 0), -1);
        Check.due("person(-1, 0)", x.person(-1, 0), -1);
        Check.due("person(3, 8)", x.person(3, 8), -1);
        Check.due("person(0, 8)", x.person(0, 8), -2);
        Check.due("person(0, -1)", x.person(0, -1), -2);
        Check.due("person(0, min)", x.person(0, Integer.MIN_VALUE), -2);
        int[] first = {10, 0, 0, 0, 0, 0, 0, -5};
        for (int what = 0; what <= 7; what++) {
            Check.due("person(0, " + what + ")", x.person(0, what), first[what]);
        }
        Check.entryWith(x, "a b", 3);
        for (int i = 0; i < 4; i++) {
            Check.fileWith(x, "a b.a b");
            x.take(i, 0);
        }
        x.review(0, 1);
        x.deliver(0);
        x.review(1, 2);
        x.withdraw(3);
        x.bar(0, 1, true);
        int paid = 2 * 10 * 20 / 100 + 2 * 10 * 10 / 100;
        int[] then = {10, 2, 2, 0, 4, 0, paid, 2};
        for (int what = 0; what <= 7; what++) {
            Check.due("person(0, " + what + ") then", x.person(0, what), then[what]);
        }
        int[] reviewer = {20, 1, 0, 0, 0, 4, 8, -5};
        for (int what = 0; what <= 7; what++) {
            Check.due("person(1, " + what + ") then", x.person(1, what), reviewer[what]);
        }
        Check.due("person(2, 3)", x.person(2, 3), 1);
        x.deliver(1);
        Check.due("person(0, 4) of two", x.person(0, 4), 8);
        Check.due("person(2, 5)", x.person(2, 5), 4);
        Check.due("person(0, 2) at last", x.person(0, 2), 1);
    }

    private static void promise22File() {
        MatchBureau x = withPersons();
        Check.due("file(0, 0)", x.file(0, 0), -1);
        Check.due("file(0, 10)", x.file(0, 10), -1);
        x.newFile();
        Check.due("file(-1, 0)", x.file(-1, 0), -1);
        Check.due("file(1, 0)", x.file(1, 0), -1);
        Check.due("file(0, 10)", x.file(0, 10), -2);
        Check.due("file(0, -1)", x.file(0, -1), -2);
        int[] empty = {0, 0, 0, 0, -5, -5, -5, 0, 0, 0};
        tellsOfFile(x, "new", empty);
        Check.text(x, "a b.c.a b");
        x.readSegments(0);
        x.newFile();
        x.swapFiles(0, 1);
        int[] open = {0, 3, 5, 1, -5, -5, -5, 0, 3, 0};
        tellsOfFile(x, "open", open);
        x.take(0, 1);
        x.translate(0, 0, 5);
        int[] taken = {1, 3, 5, 1, 1, -5, 64, 64, 1, 0};
        tellsOfFile(x, "taken", taken);
        x.translate(0, 1, 5);
        x.review(0, 0);
        x.reject(0, 2);
        x.translate(0, 2, 5);
        x.review(0, 2);
        int[] inReview = {2, 3, 5, 1, 1, 2, 64, 64, 0, 1};
        tellsOfFile(x, "in review", inReview);
        x.deliver(0);
        int[] delivered = {3, 3, 5, 1, 1, 2, 64, 74, 0, 1};
        tellsOfFile(x, "delivered", delivered);
    }

    private static void tellsOfFile(MatchBureau x, String state, int[] want) {
        for (int what = 0; what < want.length; what++) {
            Check.due(state + ": file(0, " + what + ")", x.file(0, what), want[what]);
        }
    }

    private static void promise23Segment() {
        MatchBureau x = withPersons();
        Check.fileWith(x, "a b c.d");
        Check.due("segment(1, 0, 0)", x.segment(1, 0, 0), -1);
        Check.due("segment(-1, 0, 0)", x.segment(-1, 0, 0), -1);
        Check.due("segment(0, 2, 0)", x.segment(0, 2, 0), -1);
        Check.due("segment(0, -1, 0)", x.segment(0, -1, 0), -1);
        Check.due("segment(0, 2, 7)", x.segment(0, 2, 7), -1);
        Check.due("segment(0, 0, 7)", x.segment(0, 0, 7), -2);
        Check.due("segment(0, 0, -1)", x.segment(0, 0, -1), -2);
        int[] first = {3, -5, 0, 0, -5, 5, -5};
        for (int what = 0; what <= 6; what++) {
            Check.due("segment(0, 0, " + what + ")", x.segment(0, 0, what), first[what]);
        }
        x.take(0, 0);
        x.translate(0, 0, 44);
        int[] then = {3, 44, 1, 100, 0, 1, -5};
        for (int what = 0; what <= 6; what++) {
            Check.due("segment(0, 0, " + what + ") then", x.segment(0, 0, what), then[what]);
        }
        x.withdraw(0);
        int[] withdrawn = {3, 44, 1, 100, 0, -5, -5};
        for (int what = 0; what <= 6; what++) {
            Check.due("segment(0, 0, " + what + ") withdrawn", x.segment(0, 0, what), withdrawn[what]);
        }
    }

    private static void promise23SegmentMatch() {
        MatchBureau x = withPersons();
        Check.fileWith(x, "a b c.z");
        Check.entryWith(x, "x y c", 1);
        Check.due("one of three", x.segment(0, 0, 3), 33);
        Check.due("its entry", x.segment(0, 0, 4), 0);
        Check.due("no match", x.segment(0, 1, 3), 0);
        Check.due("no entry", x.segment(0, 1, 4), -5);
        Check.entryWith(x, "b", 2);
        Check.due("as great, later", x.segment(0, 0, 4), 0);
        Check.entryWith(x, "a b", 3);
        Check.due("two of three", x.segment(0, 0, 3), 66);
        Check.due("its entry", x.segment(0, 0, 4), 2);
        Check.entryWith(x, "b c", 4);
        Check.due("as great, the lowest one", x.segment(0, 0, 4), 2);
        Check.entryWith(x, "a b c d", 5);
        Check.due("three of four", x.segment(0, 0, 3), 75);
        Check.due("its entry", x.segment(0, 0, 4), 4);
        Check.entryWith(x, "a b c", 6);
        Check.due("alike", x.segment(0, 0, 3), 100);
        Check.due("its entry", x.segment(0, 0, 4), 5);
    }

    private static void bandIs(String entry, String segment, int match, int band) {
        MatchBureau x = new MatchBureau();
        Check.entryWith(x, entry, 1);
        Check.fileWith(x, segment);
        Check.due("match of " + segment + " with " + entry, x.segment(0, 0, 3), match);
        Check.due("band of " + segment + " with " + entry, x.segment(0, 0, 5), band);
        Check.due("words in it", x.wordsIn(0, band), x.segment(0, 0, 0));
        x.withdraw(0);
        Check.due("band of a withdrawn one", x.segment(0, 0, 5), -5);
        Check.due("match of a withdrawn one", x.segment(0, 0, 3), match);
    }

    private static void promise23SegmentBands() {
        bandIs("a", "a", 100, 1);
        bandIs("a b c d e f g h", "a b c d e f g", 87, 2);
        bandIs("a b c d e f g", "a b c d e f z", 85, 2);
        bandIs("a b c d e f", "a b c d e z", 83, 3);
        bandIs("a b c d", "a b c", 75, 3);
        bandIs("a b c d e f g", "a b z d e f y", 71, 4);
        bandIs("a b", "b", 50, 4);
        bandIs("a b c d e f g", "a b c", 42, 5);
        bandIs("a", "b", 0, 5);
    }

    private static void promise23SegmentRepeats() {
        MatchBureau x = withPersons();
        Check.fileWith(x, "a.b.a.a");
        Check.fileWith(x, "c.a.a");
        Check.fileWith(x, "a.c");
        Check.due("the first", x.segment(0, 0, 6), -5);
        Check.due("the second", x.segment(0, 2, 6), 0);
        Check.due("the third", x.segment(0, 3, 6), 2);
        Check.due("from the file ahead", x.segment(1, 1, 6), 3);
        Check.due("from the same file first", x.segment(1, 2, 6), 101);
        Check.due("from the nearest file", x.segment(2, 0, 6), 102);
        Check.due("its band", x.segment(2, 0, 5), 0);
        Check.due("the nearest of another", x.segment(2, 1, 6), 100);
        Check.entryWith(x, "a", 1);
        Check.due("a repeat stays one with a match of 100", x.segment(2, 0, 5), 0);
        Check.due("the first one has its match", x.segment(0, 0, 5), 1);
        x.swapFiles(0, 2);
        Check.due("ahead then", x.segment(2, 0, 6), -5);
        Check.due("behind then", x.segment(0, 0, 6), 102);
        Check.due("between", x.segment(1, 1, 6), 200);
        x.take(1, 0);
        Check.due("behind a taken one", x.segment(0, 0, 6), 102);
        x.withdraw(1);
        Check.due("behind a withdrawn one", x.segment(0, 0, 6), 200);
        Check.due("the withdrawn one itself", x.segment(1, 2, 6), -5);
        x.take(2, 0);
        x.translate(2, 1, 8);
        x.review(2, 1);
        Check.due("behind one in review", x.segment(0, 0, 6), 200);
        x.deliver(2);
        Check.due("behind a delivered one", x.segment(0, 0, 6), -5);
        Check.due("its band", x.segment(0, 0, 5), 1);
        Check.due("the delivered one", x.segment(2, 0, 5), -5);
    }

    private static void promise24CharAt() {
        MatchBureau x = new MatchBureau();
        Check.fileWith(x, "abc z.q");
        String first = "abc z";
        for (int i = 0; i < first.length(); i++) {
            Check.due("charAt(0, 0, " + i + ")", x.charAt(0, 0, i), first.charAt(i));
        }
        Check.due("charAt(0, 0, 5)", x.charAt(0, 0, 5), -5);
        Check.due("charAt(0, 0, max)", x.charAt(0, 0, Integer.MAX_VALUE), -5);
        Check.due("charAt(0, 0, -1)", x.charAt(0, 0, -1), -2);
        Check.due("charAt(0, 0, min)", x.charAt(0, 0, Integer.MIN_VALUE), -2);
        Check.due("charAt(0, 1, 0)", x.charAt(0, 1, 0), 'q');
        Check.due("charAt(0, 1, 1)", x.charAt(0, 1, 1), -5);
        Check.due("charAt(0, 2, -1)", x.charAt(0, 2, -1), -1);
        Check.due("charAt(0, -1, 0)", x.charAt(0, -1, 0), -1);
        Check.due("charAt(1, 0, 0)", x.charAt(1, 0, 0), -1);
        Check.due("charAt(-1, 0, 0)", x.charAt(-1, 0, 0), -1);
        x.withdraw(0);
        Check.text(x, "nothing");
        Check.due("of a withdrawn file", x.charAt(0, 0, 4), 'z');
    }

    private static void distanceIs(String one, String other, int distance) {
        MatchBureau x = new MatchBureau();
        Check.fileWith(x, one);
        Check.fileWith(x, other);
        Check.entryWith(x, other, 1);
        Check.entryWith(x, one, 1);
        Check.due("distance of " + one + " to " + other, x.distance(0, 0, 0), distance);
        Check.due("distance of " + other + " to " + one, x.distance(1, 0, 1), distance);
    }

    private static void promise25Distance() {
        distanceIs("a", "b", 1);
        distanceIs("a", "a b", 1);
        distanceIs("b", "a b c", 2);
        distanceIs("a b", "b a", 2);
        distanceIs("a b c d", "b c d a", 2);
        distanceIs("a b c d e f g h", "h", 7);
        distanceIs("a b c d e f g h", "i j k l m n o p", 8);
        distanceIs("a b c d e f g h", "b c d x f g h i", 3);
        distanceIs("the cat sat", "the cats sat", 1);
        distanceIs("x a y", "a", 2);
        distanceIs("ab c", "a bc", 2);
        distanceIs("abcdefgh", "abcdefgz", 1);
        distanceIs("abcdefgh", "zbcdefgh", 1);
        MatchBureau x = new MatchBureau();
        Check.fileWith(x, "a");
        Check.due("distance(0, 0, 0) without entries", x.distance(0, 0, 0), -1);
        x.remember(1);
        Check.due("alike", x.distance(0, 0, 0), 0);
        Check.due("distance(0, 0, 1)", x.distance(0, 0, 1), -1);
        Check.due("distance(0, 0, -1)", x.distance(0, 0, -1), -1);
        Check.due("distance(0, 1, 0)", x.distance(0, 1, 0), -1);
        Check.due("distance(0, -1, 0)", x.distance(0, -1, 0), -1);
        Check.due("distance(1, 0, 0)", x.distance(1, 0, 0), -1);
        Check.due("distance(-1, 0, 0)", x.distance(-1, 0, 0), -1);
        x.withdraw(0);
        Check.due("of a withdrawn file", x.distance(0, 0, 0), 0);
    }

    private static void promise26WordsIn() {
        MatchBureau x = withPersons();
        Check.entryWith(x, "a b c d e f g", 1);
        Check.entryWith(x, "q r s t", 1);
        Check.fileWith(x, "a b c d e f g.a b c d e f z.q r s.a b.q r.q r.x");
        int[] words = {2, 7, 7, 3, 2, 3};
        for (int band = 0; band <= 5; band++) {
            Check.due("wordsIn(0, " + band + ")", x.wordsIn(0, band), words[band]);
        }
        Check.due("wordsIn(0, 6)", x.wordsIn(0, 6), -2);
        Check.due("wordsIn(0, -1)", x.wordsIn(0, -1), -2);
        Check.due("wordsIn(1, 0)", x.wordsIn(1, 0), -1);
        Check.due("wordsIn(1, 6)", x.wordsIn(1, 6), -1);
        Check.due("wordsIn(-1, 0)", x.wordsIn(-1, 0), -1);
        x.newFile();
        Check.due("without segments", x.wordsIn(1, 5), 0);
        x.take(0, 0);
        Check.due("taken", x.wordsIn(0, 3), 3);
        x.withdraw(0);
        Check.due("withdrawn", x.wordsIn(0, 3), -5);
        Check.due("withdrawn, no band", x.wordsIn(0, 6), -2);
        Check.fileWith(x, "x");
        x.take(2, 0);
        x.translate(2, 0, 3);
        x.review(2, 1);
        Check.due("in review", x.wordsIn(2, 1), 1);
        x.deliver(2);
        Check.due("delivered", x.wordsIn(2, 1), -5);
    }

    private static void promise27AllWords() {
        MatchBureau x = withPersons();
        Check.due("allWords(-1)", x.allWords(-1), -2);
        Check.due("allWords(6)", x.allWords(6), -2);
        Check.entryWith(x, "a b", 1);
        Check.fileWith(x, "a b.x y z.a c");
        Check.fileWith(x, "a b.v");
        Check.fileWith(x, "v.w.a b");
        int[] words = {5, 2, 0, 0, 2, 5};
        for (int band = 0; band <= 5; band++) {
            Check.due("allWords(" + band + ")", x.allWords(band), words[band]);
        }
        x.take(0, 0);
        x.withdraw(0);
        int[] then = {3, 2, 0, 0, 0, 2};
        for (int band = 0; band <= 5; band++) {
            Check.due("allWords(" + band + ") then", x.allWords(band), then[band]);
        }
    }

    private static void promise28Price() {
        MatchBureau x = new MatchBureau();
        x.addPerson(3);
        x.addPerson(50);
        Check.entryWith(x, "a b c d e f g", 1);
        Check.entryWith(x, "q r s t", 1);
        Check.fileWith(x, "a b c d e f g.a b c d e f z.q r s.a b.q r.q r.x");
        int cheap = 2 * 3 * 10 / 100 + 7 * 3 * 20 / 100 + 7 * 3 * 40 / 100 + 3 * 3 * 60 / 100 + 2 * 3 * 80 / 100 + 9;
        Check.due("price(0, 0)", x.price(0, 0), cheap);
        Check.due("price(0, 1)", x.price(0, 1), 10 + 70 + 140 + 90 + 80 + 150);
        Check.due("price(1, 0)", x.price(1, 0), -1);
        Check.due("price(0, 2)", x.price(0, 2), -1);
        Check.due("price(-1, 0)", x.price(-1, 0), -1);
        Check.due("price(0, -1)", x.price(0, -1), -1);
        x.newFile();
        Check.due("without segments", x.price(1, 1), 0);
        Check.due("the price when taken", x.take(0, 0), cheap);
        x.setShare(0, 100);
        Check.due("the price of now", x.price(0, 0), cheap + 6);
        x.withdraw(0);
        Check.due("withdrawn", x.price(0, 0), -5);
        Check.due("withdrawn, no person", x.price(0, 2), -1);
    }

    private static void promise29FirstReviewer() {
        MatchBureau x = withPersons();
        Check.due("firstReviewer(0)", x.firstReviewer(0), -1);
        Check.due("firstReviewer(-1)", x.firstReviewer(-1), -1);
        Check.fileWith(x, "a.b");
        Check.due("open", x.firstReviewer(0), -5);
        x.take(0, 0);
        Check.due("taken, though it is not ready", x.firstReviewer(0), 1);
        x.bar(0, 1, true);
        Check.due("the first is barred", x.firstReviewer(0), 2);
        x.bar(2, 0, true);
        Check.due("all are barred", x.firstReviewer(0), -5);
        x.bar(1, 0, false);
        x.translate(0, 0, 1);
        x.translate(0, 1, 1);
        x.review(0, 1);
        Check.due("in review", x.firstReviewer(0), -5);
        x.reject(0, 0);
        Check.due("not the last one", x.firstReviewer(0), -5);
        x.bar(2, 0, false);
        Check.due("the other one", x.firstReviewer(0), 2);
        Check.fileWith(x, "a");
        x.take(1, 1);
        Check.due("for another translator", x.firstReviewer(1), 0);
        x.withdraw(1);
        Check.due("withdrawn", x.firstReviewer(1), -5);
    }

    private static void promise30Entry() {
        MatchBureau x = withPersons();
        Check.due("entry(0, 0)", x.entry(0, 0), -1);
        Check.entryWith(x, "a b", 12);
        Check.due("entry(0, 5)", x.entry(0, 5), -2);
        Check.due("entry(0, -1)", x.entry(0, -1), -2);
        Check.due("entry(1, 0)", x.entry(1, 0), -1);
        Check.due("entry(-1, 9)", x.entry(-1, 9), -1);
        tellsOfEntry(x, "new", new int[] {2, 12, 0, -5, 0});
        Check.fileWith(x, "a b.a.a b");
        Check.fileWith(x, "a b.b a");
        Check.fileWith(x, "a b");
        tellsOfEntry(x, "with files", new int[] {2, 12, 0, -5, 4});
        x.take(0, 0);
        x.take(1, 1);
        x.withdraw(1);
        tellsOfEntry(x, "with a withdrawn one", new int[] {2, 12, 0, -5, 3});
        x.translate(0, 1, 5);
        x.translate(0, 1, 6);
        x.translate(0, 0, 13);
        tellsOfEntry(x, "disputed", new int[] {2, 12, 0, 1, 3});
        x.settle(1, 1);
        tellsOfEntry(x, "settled", new int[] {2, 13, 1, -5, 3});
        x.settle(0, 0);
        x.review(0, 1);
        tellsOfEntry(x, "in review", new int[] {2, 13, 1, -5, 3});
        x.deliver(0);
        tellsOfEntry(x, "delivered", new int[] {2, 13, 1, -5, 1});
    }

    private static void tellsOfEntry(MatchBureau x, String state, int[] want) {
        for (int what = 0; what < want.length; what++) {
            Check.due(state + ": entry(0, " + what + ")", x.entry(0, what), want[what]);
        }
    }

    private static void promise31Dispute() {
        MatchBureau x = withPersons();
        Check.due("dispute(0, 0)", x.dispute(0, 0), -1);
        Check.due("dispute(0, 5)", x.dispute(0, 5), -1);
        Check.entryWith(x, "b", 12);
        Check.fileWith(x, "a.b");
        x.take(0, 0);
        x.translate(0, 0, 7);
        x.translate(0, 0, 8);
        Check.due("dispute(0, 5)", x.dispute(0, 5), -2);
        Check.due("dispute(0, -1)", x.dispute(0, -1), -2);
        Check.due("dispute(1, 0)", x.dispute(1, 0), -1);
        Check.due("dispute(-1, 0)", x.dispute(-1, 0), -1);
        int[] open = {1, 7, 8, 0, -5};
        int[] settled = {1, 7, 8, 1, 8};
        for (int what = 0; what <= 4; what++) {
            Check.due("open: dispute(0, " + what + ")", x.dispute(0, what), open[what]);
        }
        x.settle(0, 1);
        for (int what = 0; what <= 4; what++) {
            Check.due("settled: dispute(0, " + what + ")", x.dispute(0, what), settled[what]);
        }
        x.undo();
        x.settle(0, 0);
        Check.due("settled for the first", x.dispute(0, 4), 7);
    }

    private static void promise32FileAt() {
        MatchBureau x = new MatchBureau();
        Check.due("fileAt(0)", x.fileAt(0), -5);
        Check.due("fileAt(-1)", x.fileAt(-1), -2);
        Check.due("fileAt(min)", x.fileAt(Integer.MIN_VALUE), -2);
        for (int i = 0; i < 8; i++) {
            x.newFile();
        }
        x.swapFiles(7, 2);
        Check.due("fileAt(0)", x.fileAt(0), 0);
        Check.due("fileAt(2)", x.fileAt(2), 7);
        Check.due("fileAt(7)", x.fileAt(7), 2);
        Check.due("fileAt(8)", x.fileAt(8), -5);
        Check.due("fileAt(max)", x.fileAt(Integer.MAX_VALUE), -5);
    }

    private static void promise33Count() {
        MatchBureau x = withPersons();
        Check.due("count(-1)", x.count(-1), -2);
        Check.due("count(17)", x.count(17), -2);
        Check.due("count(min)", x.count(Integer.MIN_VALUE), -2);
        Check.entryWith(x, "m n", 9);
        Check.fileWith(x, "a.m n");
        Check.fileWith(x, "b c.b c.m n");
        Check.fileWith(x, "d.e");
        Check.fileWith(x, "f g h.m n");
        x.newFile();
        x.take(0, 0);
        x.take(1, 1);
        x.take(3, 0);
        x.withdraw(3);
        x.translate(0, 0, 4);
        x.review(0, 2);
        x.deliver(0);
        x.translate(1, 0, 5);
        x.translate(1, 0, 6);
        x.translate(1, 2, 8);
        x.settle(0, 1);
        int paid = 10 + 2 * 10 * 20 / 100 + 6;
        int[] want = {5, 3, 3, 3, 2, 1, 8, 3, paid, 2, 3, 3, 0, 2, 1, 4, 0};
        x.clearText();
        for (int what = 0; what < want.length; what++) {
            Check.due("count(" + what + ")", x.count(what), want[what]);
        }
    }

    /** Eight alike files, four of which are delivered then, and one is withdrawn. */
    private static void promise33CountOfEightFiles() {
        MatchBureau x = withPersons();
        x.addPerson(40);
        x.addPerson(50);
        x.addPerson(50);
        Check.entryWith(x, "a b", 9);
        for (int i = 0; i < 8; i++) {
            Check.fileWith(x, "a b.c");
        }
        Check.due("words in hand", x.count(6), 24);
        Check.due("without a target", x.count(9), 16);
        Check.due("alike in hand", x.entry(0, 4), 8);
        Check.due("words of the band 0", x.allWords(0), 21);
        for (int i = 0; i < 8; i++) {
            x.take(i, 0);
        }
        Check.due("the target spreads", x.translate(0, 1, 5), 8);
        for (int i = 0; i < 4; i++) {
            x.review(i, 1 + i);
            x.deliver(i);
        }
        x.withdraw(7);
        int[] want = {8, 3, 6, 2, 0, 0, 9, 12, x.person(0, 6) + 24, 0, 0, 1, 7, 8, 0};
        for (int what = 0; what < want.length; what++) {
            Check.due("of eight: count(" + what + ")", x.count(what), want[what]);
        }
        Check.due("translating", x.person(0, 2), 3);
        Check.due("words translated", x.person(0, 4), 12);
        Check.due("paid to the translator", x.person(0, 6), 4 + 10 + 3 * (2 + 1));
        Check.due("alike in hand then", x.entry(0, 4), 3);
    }

    private static void promise33CountLeavesOutWhatIsUndone() {
        MatchBureau x = withPersons();
        Check.entryWith(x, "a", 9);
        Check.fileWith(x, "b");
        x.keep();
        Check.fileWith(x, "a.a");
        x.take(1, 0);
        x.review(1, 1);
        x.deliver(1);
        x.restore();
        int[] delivered = {1, 1, 3, 1, 0, 0, 1, 0, 0, 1, 1, 0, 0, 0, 0};
        for (int what = 0; what < delivered.length; what++) {
            Check.due("a delivery undone: count(" + what + ")", x.count(what), delivered[what]);
        }
        for (int what = 2; what <= 7; what++) {
            Check.due("a delivery undone: person(0, " + what + ")", x.person(0, what), what == 7 ? -5 : 0);
            Check.due("a delivery undone: person(1, " + what + ")", x.person(1, what), what == 7 ? -5 : 0);
        }
        Check.fileWith(x, "a.a");
        x.take(1, 0);
        x.review(1, 1);
        x.restore();
        Check.due("a review undone: words", x.allWords(1) + x.allWords(0) + x.count(6), 1);
        Check.due("a review undone: alike", x.entry(0, 4), 0);
        Check.due("a review undone: files", x.person(0, 2) + x.person(1, 3), 0);
    }

    private static void tellingChangesNothing() {
        MatchBureau x = withPersons();
        Check.fileWith(x, "a.b");
        x.take(0, 0);
        int states = x.count(15);
        x.undo();
        for (int what = 0; what <= 16; what++) {
            x.person(0, what);
            x.file(0, what);
            x.segment(0, 0, what);
            x.charAt(0, 0, what);
            x.entry(0, what);
            x.dispute(0, what);
            x.fileAt(what);
            x.count(what);
            x.wordsIn(0, what);
            x.allWords(what);
            x.price(0, 0);
            x.firstReviewer(0);
            x.distance(0, 0, 0);
        }
        Check.due("states", x.count(15), states - 1);
    }
}
