/** Each sentence of the promises 21 to 33 that names a boundary case, with a test of its own. */
public final class ToldEdgesTest {
    /** Numbers that are the number of no file, person, entry or dispute in the bureaus of these tests. */
    private static final int[] NOBODY = {-1, 8, 40, 100, -5, Integer.MIN_VALUE, Integer.MAX_VALUE};

    public static void main(String[] args) {
        promise21();
        promise22();
        promise23();
        promise24();
        promise25();
        promise26();
        promise27();
        promise28();
        promise29();
        promise30();
        promise31();
        promise32();
        promise33();
        Check.finish("ToldEdgesTest");
    }

    // ---- promise 21

    private static void promise21() {
        promise21Files();
        promise21FromTheFirstFileToTheLast();
        promise21Delivered();
        promise21OfSeveralFiles();
        promise21LastReviewer();
        promise21Wrong();
    }

    private static void promise21Files() {
        Check.sentence("21: 1 for the persons from whom this one is barred (as bits)");
        MatchBureau x = Check.withPersons(1, 1, 1, 1, 1, 1);
        x.bar(0, 5, true);
        x.bar(1, 0, true);
        Check.due("person(0, 1)", x.person(0, 1), 34);
        Check.due("person(5, 1)", x.person(5, 1), 1);
        Check.due("person(2, 1)", x.person(2, 1), 0);
        Check.sentence("21: 2 for taken files and files in review of which this is the translator");
        MatchBureau y = TermsEdgesTest.fiveStates();
        Check.due("one taken, one in review", y.person(0, 2), 2);
        Check.due("one delivered", y.person(1, 2), 0);
        Check.due("one withdrawn", y.person(2, 2), 0);
        Check.sentence("21: 3 for files in review of which this is the reviewer");
        Check.due("one in review", y.person(1, 3), 1);
        Check.due("one delivered", y.person(0, 3), 0);
        Check.due("none", y.person(2, 3), 0);
        y.withdraw(2);
        Check.due("withdrawn from review", y.person(1, 3), 0);
        Check.due("withdrawn from its translator", y.person(0, 2), 1);
        y.undo();
        y.reject(2, 0);
        Check.due("rejected", y.person(1, 3), 0);
        Check.due("rejected, at its translator", y.person(0, 2), 2);
    }

    private static void promise21FromTheFirstFileToTheLast() {
        Check.sentence("21: 2 and 3 go for all files, the first one and the last one, too");
        for (int file = 0; file < 8; file += 7) {
            MatchBureau x = Check.withPersons(1, 1);
            Check.entryWith(x, "a", 3);
            for (int i = 0; i < 8; i++) {
                Check.fileWith(x, "a");
            }
            x.take(file, 0);
            Check.due("taken: " + file, x.person(0, 2), 1);
            x.review(file, 1);
            Check.due("in review: " + file, x.person(0, 2), 1);
            Check.due("at the reviewer: " + file, x.person(1, 3), 1);
            Check.due("not the other way: " + file, x.person(1, 2) + x.person(0, 3), 0);
            x.deliver(file);
            Check.due("words translated: " + file, x.person(0, 4), 1);
            Check.due("words reviewed: " + file, x.person(1, 5), 1);
            Check.due("delivered words: " + file, x.count(7), 1);
            Check.due("delivered: " + file, x.person(0, 2) + x.person(1, 3), 0);
        }
    }

    private static void promise21OfSeveralFiles() {
        Check.sentence("21: 2 to 6 are summed up over files");
        MatchBureau x = Check.withPersons(10, 1, 1);
        Check.entryWith(x, "a b", 3);
        for (int i = 0; i < 4; i++) {
            Check.fileWith(x, "a b");
            x.take(i, 0);
        }
        x.review(0, 1);
        x.review(1, 2);
        x.review(2, 1);
        Check.due("translating", x.person(0, 2), 4);
        Check.due("reviewing", x.person(1, 3), 2);
        for (int i = 0; i < 3; i++) {
            x.deliver(i);
        }
        int[] translator = {6, 0, 4 + 2 + 2};
        int[] reviewer = {0, 4, 8};
        tells(x, 0, translator);
        tells(x, 1, reviewer);
        Check.due("delivered words", x.count(7), 6);
        Check.due("paid in all", x.count(8), 8 + 12);
    }

    private static void promise21Delivered() {
        Check.sentence("21: 4 for the words of delivered files that were translated by this one, 5 for those reviewed");
        MatchBureau x = Check.withPersons(10, 20);
        Check.entryWith(x, "a b c", 3);
        Check.entryWith(x, "d", 3);
        Check.fileWith(x, "a b c.d");
        Check.fileWith(x, "d");
        x.take(0, 0);
        x.take(1, 1);
        x.review(0, 1);
        x.review(1, 0);
        int[] before = {0, 0, 0};
        tells(x, 0, before);
        tells(x, 1, before);
        x.deliver(0);
        int[] translator = {4, 0, 8};
        int[] reviewer = {0, 4, 8};
        tells(x, 0, translator);
        tells(x, 1, reviewer);
        Check.sentence("21: 6 for what was paid to this one");
        x.deliver(1);
        int[] first = {4, 1, 10};
        int[] second = {1, 4, 10};
        tells(x, 0, first);
        tells(x, 1, second);
        Check.fileWith(x, "d");
        x.take(2, 0);
        x.withdraw(2);
        tells(x, 0, first);
    }

    /** What person(person, 4) to person(person, 6) tell. */
    private static void tells(MatchBureau x, int person, int[] want) {
        for (int i = 0; i < want.length; i++) {
            Check.due("person(" + person + ", " + (4 + i) + ")", x.person(person, 4 + i), want[i]);
        }
    }

    private static void promise21LastReviewer() {
        Check.sentence("21: 7 for the person to whom the last file ... was given (NONE if there was none)");
        MatchBureau x = TermsEdgesTest.fiveStates();
        Check.due("of the first", x.person(0, 7), 1);
        Check.due("the person 0", x.person(1, 7), 0);
        Check.due("none", x.person(2, 7), -5);
        x.review(1, 2);
        Check.due("the later one", x.person(0, 7), 2);
        x.reject(1, 0);
        Check.due("after reject", x.person(0, 7), 2);
        x.withdraw(1);
        Check.due("after withdraw", x.person(0, 7), 2);
        x.deliver(2);
        Check.due("delivered later than given", x.person(0, 7), 2);
        x.undo();
        x.undo();
        x.undo();
        x.undo();
        Check.due("after undo", x.person(0, 7), 1);
    }

    private static void promise21Wrong() {
        MatchBureau x = Check.withPersons(7);
        Check.sentence("21: BAD_VALUE");
        Check.due("person(0, -1)", x.person(0, -1), -2);
        Check.due("person(0, 7)", x.person(0, 7), -5);
        Check.due("person(0, 8)", x.person(0, 8), -2);
        Check.sentence("21: UNKNOWN is ahead of BAD_VALUE");
        Check.due("person(0, 0)", x.person(0, 0), 7);
        Check.due("person(1, 0)", x.person(1, 0), -1);
        for (int nobody : NOBODY) {
            Check.due("person(" + nobody + ", 0)", x.person(nobody, 0), -1);
            Check.due("person(" + nobody + ", 8)", x.person(nobody, 8), -1);
        }
    }

    // ---- promise 22

    private static void promise22() {
        promise22People();
        promise22Money();
        promise22Counts();
        promise22Wrong();
    }

    private static void promise22People() {
        Check.sentence("22: 4 for its translator, 5 for its reviewer (4 and 5: NONE if it has none now)");
        MatchBureau x = TermsEdgesTest.fiveStates();
        int[] translator = {-5, 0, 0, 1};
        int[] reviewer = {-5, -5, 1, 0};
        for (int i = 0; i < 4; i++) {
            Check.due("file(" + i + ", 4)", x.file(i, 4), translator[i]);
            Check.due("file(" + i + ", 5)", x.file(i, 5), reviewer[i]);
        }
        x.reject(2, 0);
        Check.due("the translator after reject", x.file(2, 4), 0);
        Check.due("the reviewer after reject", x.file(2, 5), -5);
        x.withdraw(0);
        Check.due("the translator of one withdrawn when open", x.file(0, 4), -5);
    }

    private static void promise22Money() {
        Check.sentence("22: 6 for the price for which it was taken (NONE if it was not, or was withdrawn)");
        MatchBureau x = TermsEdgesTest.fiveStates();
        int[] price = {-5, 1, 1, 2, -5};
        for (int i = 0; i < 5; i++) {
            Check.due("file(" + i + ", 6)", x.file(i, 6), price[i]);
        }
        Check.sentence("22: that price if it is taken or further on, and the reviewer's money if it is delivered");
        int[] cost = {0, 1, 1, 4, 0};
        for (int i = 0; i < 5; i++) {
            Check.due("file(" + i + ", 7)", x.file(i, 7), cost[i]);
        }
        x.reject(2, 0);
        Check.due("price after reject", x.file(2, 6), 1);
        Check.due("cost after reject", x.file(2, 7), 1);
        x.withdraw(2);
        Check.due("price of a withdrawn one", x.file(2, 6), -5);
        Check.due("cost of a withdrawn one", x.file(2, 7), 0);
        x.withdraw(0);
        Check.due("price of one withdrawn when open", x.file(0, 6), -5);
        Check.due("cost of one withdrawn when open", x.file(0, 7), 0);
    }

    private static void promise22Counts() {
        Check.sentence("22: 1 for its segments, 2 for its words, 8 for its segments without a target");
        MatchBureau x = Check.withPersons(1);
        x.newFile();
        int[] told = {1, 2, 8};
        int[] empty = {0, 0, 0};
        int[] open = {12, 26, 12};
        int[] taken = {12, 26, 11};
        for (int i = 0; i < 3; i++) {
            Check.due("empty: file(0, " + told[i] + ")", x.file(0, told[i]), empty[i]);
        }
        Check.text(x, "a b c d e f g h.a b c d e f g h.b.c.d.e.f.g.h.i.j.k");
        x.readSegments(0);
        for (int i = 0; i < 3; i++) {
            Check.due("open: file(0, " + told[i] + ")", x.file(0, told[i]), open[i]);
        }
        x.take(0, 0);
        x.translate(0, 11, 5);
        for (int i = 0; i < 3; i++) {
            Check.due("taken: file(0, " + told[i] + ")", x.file(0, told[i]), taken[i]);
        }
        x.withdraw(0);
        for (int i = 0; i < 3; i++) {
            Check.due("withdrawn: file(0, " + told[i] + ")", x.file(0, told[i]), taken[i]);
        }
    }

    private static void promise22Wrong() {
        MatchBureau x = new MatchBureau();
        x.newFile();
        Check.sentence("22: BAD_VALUE");
        Check.due("file(0, -1)", x.file(0, -1), -2);
        Check.due("file(0, 9)", x.file(0, 9), 0);
        Check.due("file(0, 10)", x.file(0, 10), -2);
        Check.sentence("22: UNKNOWN is ahead of BAD_VALUE");
        Check.due("file(0, 0)", x.file(0, 0), 0);
        Check.due("file(1, 0)", x.file(1, 0), -1);
        for (int nobody : NOBODY) {
            Check.due("file(" + nobody + ", 0)", x.file(nobody, 0), -1);
            Check.due("file(" + nobody + ", 10)", x.file(nobody, 10), -1);
        }
    }

    // ---- promise 23

    private static void promise23() {
        promise23None();
        promise23Band();
        promise23Nearest();
        promise23Wrong();
    }

    private static void promise23None() {
        Check.sentence("23: 1 for its target (NONE if it has none), 4 for its entry (NONE if it has none)");
        MatchBureau x = Check.withPersons(1);
        Check.entryWith(x, "a", 999);
        Check.fileWith(x, "a.b");
        x.take(0, 0);
        Check.due("segment(0, 0, 1)", x.segment(0, 0, 1), 999);
        Check.due("segment(0, 1, 1)", x.segment(0, 1, 1), -5);
        Check.due("the entry 0", x.segment(0, 0, 4), 0);
        Check.due("no entry", x.segment(0, 1, 4), -5);
    }

    private static void promise23Band() {
        Check.sentence("23: 5 for its band (NONE if the file is not in hand)");
        MatchBureau x = TermsEdgesTest.fiveStates();
        int[] band = {1, 0, 0, -5, -5};
        for (int i = 0; i < 5; i++) {
            Check.due("segment(" + i + ", 0, 5)", x.segment(i, 0, 5), band[i]);
            Check.due("segment(" + i + ", 0, 3)", x.segment(i, 0, 3), 100);
            Check.due("segment(" + i + ", 0, 4)", x.segment(i, 0, 4), 0);
        }
    }

    private static void promise23Nearest() {
        Check.sentence("23: 6 for the nearest segment ahead of it, as 100 * file + segment (NONE if it is no repeat)");
        MatchBureau x = Check.withPersons(1);
        Check.fileWith(x, "a.b.a.b.b.b.b.b.b.b.b.a");
        for (int i = 1; i < 8; i++) {
            x.newFile();
        }
        x.readSegments(7);
        Check.text(x, "a");
        x.readSegments(3);
        Check.due("the first one", x.segment(0, 0, 6), -5);
        Check.due("the segment 0", x.segment(0, 2, 6), 0);
        Check.due("the nearest in the same file", x.segment(0, 11, 6), 2);
        Check.due("one right ahead", x.segment(0, 4, 6), 3);
        Check.due("of the file ahead the last one", x.segment(3, 0, 6), 11);
        Check.sentence("23: (the nearest is the last one in the order, then by numbers)");
        Check.due("the nearest file", x.segment(7, 0, 6), 300);
        Check.due("its own, ahead of other files' ones", x.segment(7, 2, 6), 700);
        Check.due("another one's, past a file without", x.segment(7, 1, 6), 10);
        x.swapFiles(0, 3);
        Check.due("the nearest in the order", x.segment(7, 0, 6), 11);
        Check.due("the file behind", x.segment(3, 0, 6), -5);
        Check.due("the file that is ahead then", x.segment(0, 0, 6), 300);
        x.swapFiles(3, 7);
        Check.due("behind the highest number", x.segment(0, 0, 6), 711);
        Check.due("the last one in the order", x.segment(3, 0, 6), 11);
    }

    private static void promise23Wrong() {
        MatchBureau x = new MatchBureau();
        Check.fileWith(x, "a.b");
        x.newFile();
        Check.sentence("23: BAD_VALUE");
        Check.due("segment(0, 0, -1)", x.segment(0, 0, -1), -2);
        Check.due("segment(0, 0, 6)", x.segment(0, 0, 6), -5);
        Check.due("segment(0, 0, 7)", x.segment(0, 0, 7), -2);
        Check.sentence("23: UNKNOWN (file or segment) is ahead of BAD_VALUE");
        Check.due("segment(0, 1, 0)", x.segment(0, 1, 0), 1);
        Check.due("segment(0, 2, 0)", x.segment(0, 2, 0), -1);
        Check.due("segment(0, 2, 7)", x.segment(0, 2, 7), -1);
        Check.due("segment(1, 0, 0)", x.segment(1, 0, 0), -1);
        Check.due("segment(2, 0, -1)", x.segment(2, 0, -1), -1);
        for (int nobody : NOBODY) {
            Check.due("segment(" + nobody + ", 0, 0)", x.segment(nobody, 0, 0), -1);
            Check.due("segment(0, " + nobody + ", 7)", x.segment(0, nobody, 7), -1);
        }
    }

    // ---- promises 24 to 28

    private static void promise24() {
        Check.sentence("24: an index in its characters (its words with one blank between two), from 0");
        MatchBureau x = new MatchBureau();
        String longest = "abcdefgh bcdefghi cdefghij defghijk efghijkl fghijklm";
        Check.fileWith(x, longest + ".z a.y");
        for (int i = 0; i < longest.length(); i++) {
            Check.due("charAt(0, 0, " + i + ")", x.charAt(0, 0, i), longest.charAt(i));
        }
        Check.due("a letter z", x.charAt(0, 1, 0), 122);
        Check.due("a blank", x.charAt(0, 1, 1), 32);
        Check.due("a letter a", x.charAt(0, 1, 2), 97);
        Check.due("of one character", x.charAt(0, 2, 0), 121);
        Check.sentence("24: NONE if there are not so many");
        Check.due("behind the longest", x.charAt(0, 0, longest.length()), -5);
        Check.due("behind three", x.charAt(0, 1, 3), -5);
        Check.due("behind one", x.charAt(0, 2, 1), -5);
        Check.due("far behind", x.charAt(0, 2, Integer.MAX_VALUE), -5);
        Check.sentence("24: BAD_VALUE if index is negative");
        Check.due("-1", x.charAt(0, 0, -1), -2);
        Check.due("min", x.charAt(0, 0, Integer.MIN_VALUE), -2);
        Check.sentence("24: UNKNOWN (file or segment) is ahead of BAD_VALUE and NONE");
        for (int nobody : NOBODY) {
            Check.due("charAt(" + nobody + ", 0, -1)", x.charAt(nobody, 0, -1), -1);
            Check.due("charAt(0, " + nobody + ", -1)", x.charAt(0, nobody, -1), -1);
            Check.due("charAt(0, " + nobody + ", 99)", x.charAt(0, nobody, 99), -1);
        }
        Check.due("charAt(1, 0, 0)", x.charAt(1, 0, 0), -1);
        Check.due("charAt(0, 3, 0)", x.charAt(0, 3, 0), -1);
        Check.due("charAt(0, 3, -1)", x.charAt(0, 3, -1), -1);
    }

    private static void promise25() {
        Check.sentence("25: Returns the distance of both");
        MatchBureau x = new MatchBureau();
        Check.fileWith(x, "a b c.d");
        Check.entryWith(x, "a c", 1);
        Check.entryWith(x, "d", 1);
        Check.due("distance(0, 0, 0)", x.distance(0, 0, 0), 1);
        Check.due("distance(0, 1, 0)", x.distance(0, 1, 0), 2);
        Check.due("distance(0, 0, 1)", x.distance(0, 0, 1), 3);
        Check.due("distance(0, 1, 1)", x.distance(0, 1, 1), 0);
        Check.sentence("25: UNKNOWN (file, segment or entry)");
        for (int nobody : NOBODY) {
            Check.due("distance(" + nobody + ", 0, 0)", x.distance(nobody, 0, 0), -1);
            Check.due("distance(0, " + nobody + ", 0)", x.distance(0, nobody, 0), -1);
            Check.due("distance(0, 0, " + nobody + ")", x.distance(0, 0, nobody), -1);
        }
        Check.due("distance(1, 0, 0)", x.distance(1, 0, 0), -1);
        Check.due("distance(0, 2, 0)", x.distance(0, 2, 0), -1);
        Check.due("distance(0, 0, 2)", x.distance(0, 0, 2), -1);
        x.undo();
        Check.due("an entry that is gone", x.distance(0, 0, 1), -1);
    }

    private static void promise26() {
        Check.sentence("26: Returns the words of its segments in this band");
        MatchBureau x = TermsEdgesTest.fiveStates();
        int[] words = {0, 1, 0, 0, 0, 0};
        for (int band = 0; band <= 5; band++) {
            Check.due("wordsIn(0, " + band + ")", x.wordsIn(0, band), words[band]);
            Check.due("wordsIn(1, " + band + ")", x.wordsIn(1, band), band == 0 ? 1 : 0);
            Check.due("wordsIn(2, " + band + ")", x.wordsIn(2, band), band == 0 ? 1 : 0);
        }
        x.newFile();
        Check.due("without segments", x.wordsIn(5, 5), 0);
        Check.sentence("26: NONE if it is not in hand");
        Check.due("delivered", x.wordsIn(3, 0), -5);
        Check.due("withdrawn", x.wordsIn(4, 5), -5);
        Check.sentence("26: BAD_VALUE, ahead of NONE");
        Check.due("wordsIn(0, -1)", x.wordsIn(0, -1), -2);
        Check.due("wordsIn(0, 6)", x.wordsIn(0, 6), -2);
        Check.due("wordsIn(3, -1)", x.wordsIn(3, -1), -2);
        Check.due("wordsIn(4, 6)", x.wordsIn(4, 6), -2);
        Check.sentence("26: UNKNOWN is ahead of BAD_VALUE");
        for (int nobody : NOBODY) {
            Check.due("wordsIn(" + nobody + ", 0)", x.wordsIn(nobody, 0), -1);
            Check.due("wordsIn(" + nobody + ", 6)", x.wordsIn(nobody, 6), -1);
        }
        Check.due("wordsIn(6, 0)", x.wordsIn(6, 0), -1);
    }

    private static void promise27() {
        Check.sentence("27: Returns the words of all segments of files in hand in this band");
        MatchBureau x = TermsEdgesTest.fiveStates();
        Check.fileWith(x, "z y x.a");
        int[] words = {3, 1, 0, 0, 0, 3};
        for (int band = 0; band <= 5; band++) {
            Check.due("allWords(" + band + ")", x.allWords(band), words[band]);
        }
        Check.due("without files", new MatchBureau().allWords(5), 0);
        Check.sentence("27: BAD_VALUE");
        Check.due("allWords(-1)", x.allWords(-1), -2);
        Check.due("allWords(6)", x.allWords(6), -2);
        Check.due("allWords(min)", x.allWords(Integer.MIN_VALUE), -2);
        Check.due("allWords(max)", x.allWords(Integer.MAX_VALUE), -2);
        Check.due("without files", new MatchBureau().allWords(6), -2);
    }

    private static void promise28() {
        Check.sentence("28: Returns the price of the file for this person now");
        MatchBureau x = TermsEdgesTest.fiveStates();
        Check.due("the open one", x.price(0, 2), 6);
        Check.due("the taken one, for its translator", x.price(1, 0), 1);
        Check.due("the taken one, for another", x.price(1, 2), 3);
        Check.due("the one in review", x.price(2, 2), 3);
        Check.due("without segments", x.price(x.newFile(), 2), 0);
        x.setShare(0, 100);
        Check.due("now", x.price(2, 2), 30);
        Check.sentence("28: NONE if it is not in hand");
        Check.due("delivered", x.price(3, 0), -5);
        Check.due("withdrawn", x.price(4, 0), -5);
        Check.sentence("28: UNKNOWN (file or person), ahead of NONE");
        for (int nobody : NOBODY) {
            Check.due("price(" + nobody + ", 0)", x.price(nobody, 0), -1);
            Check.due("price(0, " + nobody + ")", x.price(0, nobody), -1);
            Check.due("price(3, " + nobody + ")", x.price(3, nobody), -1);
        }
        Check.due("price(6, 0)", x.price(6, 0), -1);
        Check.due("price(0, 3)", x.price(0, 3), -1);
        Check.due("price(4, 3)", x.price(4, 3), -1);
    }

    // ---- promises 29 to 33

    private static void promise29() {
        Check.sentence("29: Returns the lowest person who may review it");
        MatchBureau x = Check.withPersons(1, 1, 1, 1, 1, 1);
        Check.fileWith(x, "a");
        x.take(0, 0);
        for (int i = 1; i <= 5; i++) {
            Check.due("firstReviewer(0)", x.firstReviewer(0), i);
            x.bar(0, i, true);
        }
        Check.sentence("29: NONE if there is none, or it is not taken");
        Check.due("with all barred", x.firstReviewer(0), -5);
        x.bar(0, 5, false);
        Check.due("the last one", x.firstReviewer(0), 5);
        MatchBureau y = Check.withPersons(1);
        Check.fileWith(y, "a");
        y.take(0, 0);
        Check.due("with the translator alone", y.firstReviewer(0), -5);
        y.addPerson(1);
        Check.due("with one more, and no target", y.firstReviewer(0), 1);
        MatchBureau z = TermsEdgesTest.fiveStates();
        Check.due("open", z.firstReviewer(0), -5);
        Check.due("taken", z.firstReviewer(1), 2);
        Check.due("in review", z.firstReviewer(2), -5);
        Check.due("delivered", z.firstReviewer(3), -5);
        Check.due("withdrawn", z.firstReviewer(4), -5);
        Check.sentence("29: UNKNOWN");
        Check.due("firstReviewer(5)", z.firstReviewer(5), -1);
        for (int nobody : NOBODY) {
            Check.due("firstReviewer(" + nobody + ")", z.firstReviewer(nobody), -1);
        }
    }

    private static void promise30() {
        Check.sentence("30: 3 for its open dispute (NONE if there is none)");
        MatchBureau x = TermsEdgesTest.fiveStates();
        Check.due("none", x.entry(0, 3), -5);
        x.translate(1, 0, 4);
        Check.due("the dispute 0", x.entry(0, 3), 0);
        x.settle(0, 1);
        Check.due("settled", x.entry(0, 3), -5);
        Check.due("entry(0, 2)", x.entry(0, 2), 1);
        x.undo();
        Check.due("open again", x.entry(0, 3), 0);
        Check.due("entry(0, 2) after undo", x.entry(0, 2), 0);
        MatchBureau y = Check.withPersons(1);
        Check.fileWith(y, "a.b.c");
        y.take(0, 0);
        for (int i = 0; i < 6; i++) {
            y.translate(0, i % 3, 1 + i / 3);
        }
        y.settle(1, 0);
        int[] open = {0, -5, 2};
        for (int i = 0; i < 3; i++) {
            Check.due("open dispute of the entry " + i, y.entry(i, 3), open[i]);
        }
        Check.sentence("30: 4 for the segments of files in hand that are alike to its own");
        Check.due("of five files", x.entry(0, 4), 3);
        Check.fileWith(x, "a.aa.a.a b");
        Check.due("with two more", x.entry(0, 4), 5);
        Check.due("none of another", x.entry(Check.entryWith(x, "q", 1), 4), 0);
        Check.sentence("30: BAD_VALUE");
        Check.due("entry(0, -1)", x.entry(0, -1), -2);
        Check.due("entry(0, 5)", x.entry(0, 5), -2);
        Check.sentence("30: UNKNOWN is ahead of BAD_VALUE");
        for (int nobody : NOBODY) {
            Check.due("entry(" + nobody + ", 0)", x.entry(nobody, 0), -1);
            Check.due("entry(" + nobody + ", 5)", x.entry(nobody, 5), -1);
        }
        Check.due("entry(1, 0)", x.entry(1, 0), 1);
        Check.due("entry(2, 0)", x.entry(2, 0), -1);
    }

    private static void promise31() {
        Check.sentence("31: 4 for the target that was chosen (NONE if it is open)");
        MatchBureau x = TermsEdgesTest.fiveStates();
        Check.due("dispute(0, 0) without disputes", x.dispute(0, 0), -1);
        Check.due("dispute(0, 5) without disputes", x.dispute(0, 5), -1);
        x.translate(1, 0, 4);
        Check.due("open", x.dispute(0, 4), -5);
        Check.due("dispute(0, 3)", x.dispute(0, 3), 0);
        x.settle(0, 0);
        Check.due("the entry's", x.dispute(0, 4), 3);
        Check.due("dispute(0, 3) then", x.dispute(0, 3), 1);
        x.undo();
        Check.due("open again", x.dispute(0, 4), -5);
        x.settle(0, 1);
        Check.due("the other one", x.dispute(0, 4), 4);
        Check.due("dispute(0, 0)", x.dispute(0, 0), 0);
        Check.due("dispute(0, 1)", x.dispute(0, 1), 3);
        Check.due("dispute(0, 2)", x.dispute(0, 2), 4);
        Check.sentence("31: BAD_VALUE");
        Check.due("dispute(0, -1)", x.dispute(0, -1), -2);
        Check.due("dispute(0, 5)", x.dispute(0, 5), -2);
        Check.sentence("31: UNKNOWN is ahead of BAD_VALUE");
        Check.due("dispute(1, 0)", x.dispute(1, 0), -1);
        for (int nobody : NOBODY) {
            Check.due("dispute(" + nobody + ", 0)", x.dispute(nobody, 0), -1);
            Check.due("dispute(" + nobody + ", 5)", x.dispute(nobody, 5), -1);
        }
    }

    private static void promise32() {
        Check.sentence("32: NONE if there are not so many");
        MatchBureau x = new MatchBureau();
        for (int files = 0; files <= 8; files++) {
            for (int place = 0; place < files; place++) {
                Check.due("fileAt(" + place + ") of " + files, x.fileAt(place), place);
            }
            Check.due("fileAt(" + files + ") of " + files, x.fileAt(files), -5);
            x.newFile();
        }
        Check.due("fileAt(9)", x.fileAt(9), -5);
        Check.due("fileAt(max)", x.fileAt(Integer.MAX_VALUE), -5);
        x.withdraw(0);
        Check.due("a withdrawn one has its place", x.fileAt(0), 0);
        Check.sentence("32: BAD_VALUE if place is negative");
        Check.due("fileAt(-1)", x.fileAt(-1), -2);
        Check.due("fileAt(min)", x.fileAt(Integer.MIN_VALUE), -2);
        Check.due("fileAt(-1) without files", new MatchBureau().fileAt(-1), -2);
    }

    private static void promise33() {
        promise33Files();
        promise33Money();
        promise33Ways();
        promise33HistoryAndText();
        Check.sentence("33: BAD_VALUE");
        MatchBureau x = new MatchBureau();
        Check.due("count(-1)", x.count(-1), -2);
        Check.due("count(17)", x.count(17), -2);
        Check.due("count(min)", x.count(Integer.MIN_VALUE), -2);
        Check.due("count(max)", x.count(Integer.MAX_VALUE), -2);
    }

    private static void promise33Files() {
        Check.sentence("33: 0 for the number of files, 1 for those in hand");
        MatchBureau x = TermsEdgesTest.fiveStates();
        Check.due("count(0)", x.count(0), 5);
        Check.due("count(1)", x.count(1), 3);
        Check.sentence("33: 2 for persons, 3 for entries, 4 for disputes, 5 for those that are open");
        Check.due("count(2)", x.count(2), 3);
        Check.due("count(3)", x.count(3), 1);
        Check.due("count(4)", x.count(4), 0);
        x.translate(1, 0, 4);
        Check.due("count(4) then", x.count(4), 1);
        Check.due("count(5)", x.count(5), 1);
        x.settle(0, 0);
        Check.due("count(4) at last", x.count(4), 1);
        Check.due("count(5) at last", x.count(5), 0);
    }

    private static void promise33Money() {
        Check.sentence("33: 6 for all words of files in hand, 7 for those of delivered files");
        MatchBureau x = TermsEdgesTest.fiveStates();
        Check.fileWith(x, "b c d.e");
        Check.due("count(6)", x.count(6), 7);
        Check.due("count(7)", x.count(7), 1);
        Check.sentence("33: 8 for all that was paid");
        Check.due("count(8)", x.count(8), 4);
        x.deliver(2);
        Check.due("count(6) then", x.count(6), 6);
        Check.due("count(7) then", x.count(7), 2);
        Check.due("count(8) then", x.count(8), 7);
        Check.due("of all persons", x.person(0, 6) + x.person(1, 6) + x.person(2, 6), 7);
        x.undo();
        Check.due("count(8) after undo", x.count(8), 4);
    }

    private static void promise33Ways() {
        Check.sentence("33: 9 for segments of files in hand without a target");
        MatchBureau x = TermsEdgesTest.fiveStates();
        Check.due("the open one's", x.count(9), 1);
        Check.fileWith(x, "b.c.a");
        x.take(5, 2);
        Check.due("the taken one's, too", x.count(9), 3);
        x.withdraw(5);
        Check.due("not a withdrawn one's", x.count(9), 1);
        Check.sentence("33: 10 to 14 for segments of all files in the ways 0 to 4");
        int[] ways = {3, 0, 0, 5, 0};
        for (int way = 0; way <= 4; way++) {
            Check.due("count(" + (10 + way) + ")", x.count(10 + way), ways[way]);
        }
        x.translate(1, 0, 4);
        x.settle(0, 1);
        int[] then = {3, 1, 0, 3, 1};
        for (int way = 0; way <= 4; way++) {
            Check.due("count(" + (10 + way) + ") then", x.count(10 + way), then[way]);
        }
    }

    private static void promise33HistoryAndText() {
        Check.sentence("33: 15 for the states in the history");
        MatchBureau x = new MatchBureau();
        for (int i = 0; i < 6; i++) {
            Check.due("count(15)", x.count(15), Math.min(i, 4));
            x.newFile();
        }
        x.undo();
        Check.due("after undo", x.count(15), 3);
        Check.sentence("33: 16 for the length of the text");
        for (int i = 0; i < 61; i++) {
            Check.due("count(16)", x.count(16), i);
            x.type('!');
        }
        Check.due("count(16) of a full one", x.count(16), 60);
        x.clearText();
        Check.due("count(16) at last", x.count(16), 0);
    }
}
