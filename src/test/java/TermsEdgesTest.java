/** Each sentence of 'Terms' that names a boundary case, with a test of its own. */
public final class TermsEdgesTest {
    private static final String TWELVE = "a.b.c.d.e.f.g.h.i.j.k.l";

    public static void main(String[] args) {
        callsUpToTheLastPromisedOne();
        constants();
        segments();
        memory();
        files();
        bands();
        persons();
        spreading();
        disputes();
        texts();
        history();
        Check.finish("TermsEdgesTest");
    }

    private static void callsUpToTheLastPromisedOne() {
        Check.sentence("An object is used for at most 512 calls after it has been made");
        MatchBureau x = new MatchBureau();
        x.addPerson(10);
        Check.fileWith(x, "a b.a b");
        for (int i = 12; i < 508; i += 4) {
            Check.due("call " + i + ": swapFiles(0, 0)", x.swapFiles(0, 0), -5);
            Check.due("call " + (i + 1) + ": setShare(5, 1)", x.setShare(5, 1), 100);
            Check.due("call " + (i + 2) + ": undo()", x.undo(), 3);
            Check.due("call " + (i + 3) + ": price(0, 0)", x.price(0, 0), 22);
        }
        Check.due("call 508: keep()", x.keep(), 1);
        Check.due("call 509: newFile()", x.newFile(), 1);
        Check.due("call 510: restore()", x.restore(), 1);
        Check.due("call 511: take(0, 0)", x.take(0, 0), 22);
        Check.due("call 512: file(0, 6)", x.file(0, 6), 22);
    }

    private static void constants() {
        Check.sentence("The constants");
        Check.due("UNKNOWN", MatchBureau.UNKNOWN, -1);
        Check.due("BAD_VALUE", MatchBureau.BAD_VALUE, -2);
        Check.due("FULL", MatchBureau.FULL, -3);
        Check.due("NOT_POSSIBLE", MatchBureau.NOT_POSSIBLE, -4);
        Check.due("NONE", MatchBureau.NONE, -5);
    }

    // ---- segments and distances

    private static void segments() {
        aSegmentIsOneToEightWords();
        aWordIsOneToEightSmallLetters();
        alikeSegments();
        theDistance();
        theDistanceIsTheFewest();
        theMatchIsRoundedDown();
        theMatchIsByTheLongerOne();
        aTargetIsFrom1To999();
    }

    /** The fault of a text, or -1 if it has none. */
    private static int faultOf(String text) {
        MatchBureau x = new MatchBureau();
        x.newFile();
        Check.text(x, text);
        int answer = x.readSegments(0);
        return answer <= -100 ? -100 - answer : -1;
    }

    /** The words of the first segment of a text. */
    private static int wordsOf(String text) {
        MatchBureau x = new MatchBureau();
        Check.fileWith(x, text);
        return x.segment(0, 0, 0);
    }

    private static void aSegmentIsOneToEightWords() {
        Check.sentence("A segment is 1 to 8 words");
        Check.due("one word", wordsOf("a"), 1);
        Check.due("two words", wordsOf("a b"), 2);
        Check.due("seven words", wordsOf("a b c d e f g"), 7);
        Check.due("eight words", wordsOf("a b c d e f g h"), 8);
        Check.due("nine words", faultOf("a b c d e f g h i"), 15);
        Check.due("no word", faultOf(""), 0);
        Check.due("no word ahead of a second segment", faultOf(".a"), 0);
        Check.due("eight words twice", faultOf("a b c d e f g h.a b c d e f g h"), -1);
        Check.due("eight words, then nine", faultOf("a b c d e f g h.a b c d e f g h i"), 31);
    }

    private static void aWordIsOneToEightSmallLetters() {
        Check.sentence("a word is 1 to 8 small letters (a to z)");
        Check.due("a", faultOf("a"), -1);
        Check.due("z", faultOf("z"), -1);
        Check.due("eight letters", faultOf("abcdefgh"), -1);
        Check.due("nine letters", faultOf("abcdefghi"), 8);
        Check.due("eight letters twice", faultOf("abcdefgh abcdefgh"), -1);
        Check.due("eight letters, then nine", faultOf("abcdefgh abcdefghi"), 17);
        Check.due("the sign ahead of a", faultOf("`"), 0);
        Check.due("the sign behind z", faultOf("{"), 0);
        Check.due("A", faultOf("aA"), 1);
        Check.due("Z", faultOf("aZ"), 1);
        Check.due("a figure", faultOf("a1"), 1);
        Check.due("sign 0", faultOf("a\0"), 1);
        Check.due("sign 65535", faultOf("a\uffff"), 1);
        Check.due("a with 256 more", faultOf("a\u0161"), 1);
        Check.due("a with 65280 more", faultOf("a\uff61"), 1);
        Check.due("a line's end", faultOf("a\nb"), 1);
        Check.due("a tabulator", faultOf("a\tb"), 1);
    }

    /** Whether two segments are alike: the second can't be remembered then, and is a repeat. */
    private static void alike(String one, String other, boolean is) {
        MatchBureau x = new MatchBureau();
        Check.entryWith(x, one, 1);
        Check.due("remember " + other + " after " + one, Check.entryWith(x, other, 2), is ? -4 : 1);
        MatchBureau y = new MatchBureau();
        Check.fileWith(y, one + "." + other);
        Check.due("repeat " + other + " after " + one, y.segment(0, 1, 6), is ? 0 : -5);
    }

    private static void alikeSegments() {
        Check.sentence("Two segments are alike if they have the same words in the same order");
        alike("a", "a", true);
        alike("a b c d e f g h", "a b c d e f g h", true);
        alike("abcdefgh z", "abcdefgh z", true);
        alike("a b", "b a", false);
        alike("a b", "a", false);
        alike("a", "a b", false);
        alike("a", "a a", false);
        alike("b", "a b", false);
        alike("a b c d e f g h", "a b c d e f g i", false);
        alike("a b c d e f g h", "b b c d e f g h", false);
        alike("a b c d e f g h", "a b c e d f g h", false);
        alike("abcdefgh", "abcdefgi", false);
        alike("abcdefgh", "bbcdefgh", false);
        alike("abcdefgh", "abcdefg", false);
        alike("a ab", "aa b", false);
        alike("ab", "a b", false);
        alike("az", "ba", false);
    }

    private static void distance(String one, String other, int due) {
        MatchBureau x = new MatchBureau();
        Check.fileWith(x, one);
        Check.entryWith(x, other, 1);
        Check.due("distance of " + one + " to " + other, x.distance(0, 0, 0), due);
        MatchBureau y = new MatchBureau();
        Check.fileWith(y, other);
        Check.entryWith(y, one, 1);
        Check.due("distance of " + other + " to " + one, y.distance(0, 0, 0), due);
    }

    private static void theDistance() {
        Check.sentence("words that have to be put in, left out or replaced by another one");
        distance("a", "a", 0);
        distance("a b c d e f g h", "a b c d e f g h", 0);
        distance("b c", "a b c", 1);
        distance("a c", "a b c", 1);
        distance("a b", "a b c", 1);
        distance("a b c", "x b c", 1);
        distance("a b c", "a x c", 1);
        distance("a b c", "a b x", 1);
        distance("a", "b", 1);
        distance("a", "a b c d e f g h", 7);
        distance("h", "a b c d e f g h", 7);
        distance("x", "a b c d e f g h", 8);
        distance("a b c d e f g h", "i j k l m n o p", 8);
        distance("abcdefgh", "bcdefgh", 1);
        distance("aa ab", "aa ac", 1);
    }

    private static void theDistanceIsTheFewest() {
        Check.sentence("The distance of two segments is the fewest words");
        distance("a b", "b a", 2);
        distance("a b c d e f g h", "b c d e f g h i", 2);
        distance("a b c d e f g h", "h a b c d e f g", 2);
        distance("a b c d", "d c b a", 4);
        distance("a b c d e", "e d c b a", 4);
        distance("a a b", "a b b", 1);
        distance("a a a a", "a a", 2);
        distance("a b a b a b", "b a b a b a", 2);
        distance("k i t t e n", "s i t t i n g", 3);
        distance("s u n d a y", "s a t u r d a y", 3);
    }

    private static int match(String segment, String entry) {
        MatchBureau x = new MatchBureau();
        Check.fileWith(x, segment);
        Check.entryWith(x, entry, 1);
        return x.segment(0, 0, 3);
    }

    private static void theMatchIsRoundedDown() {
        Check.sentence("Their match is 100 * (n - distance) / n, rounded down");
        Check.due("one of three", match("a b c", "a x y"), 33);
        Check.due("two of three", match("a b c", "a b y"), 66);
        Check.due("one of six", match("a b c d e f", "a u v w x y"), 16);
        Check.due("five of six", match("a b c d e f", "a b c d e y"), 83);
        Check.due("one of seven", match("a b c d e f g", "a t u v w x y"), 14);
        Check.due("two of seven", match("a b c d e f g", "a b u v w x y"), 28);
        Check.due("three of seven", match("a b c d e f g", "a b c v w x y"), 42);
        Check.due("four of seven", match("a b c d e f g", "a b c d w x y"), 57);
        Check.due("five of seven", match("a b c d e f g", "a b c d e x y"), 71);
        Check.due("six of seven", match("a b c d e f g", "a b c d e f y"), 85);
        Check.due("one of eight", match("a b c d e f g h", "a s t u v w x y"), 12);
        Check.due("three of eight", match("a b c d e f g h", "a b c u v w x y"), 37);
        Check.due("five of eight", match("a b c d e f g h", "a b c d e w x y"), 62);
        Check.due("seven of eight", match("a b c d e f g h", "a b c d e f g y"), 87);
        Check.due("all of eight", match("a b c d e f g h", "a b c d e f g h"), 100);
        Check.due("none of eight", match("a b c d e f g h", "r s t u v w x y"), 0);
    }

    private static void theMatchIsByTheLongerOne() {
        Check.sentence("where n is the number of words of the longer one");
        Check.due("a longer entry", match("a", "a b"), 50);
        Check.due("a longer segment", match("a b", "a"), 50);
        Check.due("a much longer entry", match("a", "a b c d e f g h"), 12);
        Check.due("a much longer segment", match("a b c d e f g h", "a"), 12);
        Check.due("three of four", match("a b c", "a b c d"), 75);
        Check.due("no word of a longer one", match("a", "b c"), 0);
    }

    private static void aTargetIsFrom1To999() {
        Check.sentence("A target stands for a translation; it is a number from 1 to 999");
        int[] targets = {1, 2, 998, 999};
        int[] others = {0, 1000, -1, -5, 1001, 65537, Integer.MIN_VALUE, Integer.MAX_VALUE};
        for (int target : targets) {
            MatchBureau x = Check.withPersons(1);
            Check.due("remember(" + target + ")", Check.entryWith(x, "a", target), 0);
            Check.due("the entry's target", x.entry(0, 1), target);
            Check.fileWith(x, "b");
            x.take(0, 0);
            Check.due("translate(0, 0, " + target + ")", x.translate(0, 0, target), 1);
            Check.due("the segment's target", x.segment(0, 0, 1), target);
        }
        for (int target : others) {
            MatchBureau x = Check.withPersons(1);
            Check.due("remember(" + target + ")", Check.entryWith(x, "a", target), -2);
            Check.fileWith(x, "b");
            x.take(0, 0);
            Check.due("translate(0, 0, " + target + ")", x.translate(0, 0, target), -2);
            Check.due("no target", x.segment(0, 0, 1), -5);
        }
    }

    // ---- the memory

    private static void memory() {
        atMost40Entries();
        entriesAreNumberedInTheOrderInWhichTheyCame();
        noTwoEntriesAreAlike();
        anEntryIsNotSettledAtFirst();
        theGreatestMatch();
        theMatchWithoutEntries();
        ofSeveralTheLowestEntry();
        noEntryIfTheMatchIsZero();
    }

    private static void atMost40Entries() {
        Check.sentence("The memory has at most 40 entries");
        MatchBureau x = Check.withPersons(1);
        for (int i = 0; i < 39; i++) {
            Check.due("entry " + i, Check.entryWith(x, Check.word(i), 1), i);
        }
        Check.fileWith(x, "a.b");
        x.take(0, 0);
        Check.due("the fortieth by translate", x.translate(0, 0, 1), 1);
        Check.due("entries", x.count(3), 40);
        Check.due("the forty-first by translate", x.translate(0, 1, 1), -3);
        Check.due("the forty-first by remember", Check.entryWith(x, "b", 1), -3);
        Check.due("entry(39, 1)", x.entry(39, 1), 1);
        Check.due("entry(40, 1)", x.entry(40, 1), -1);
        x.undo();
        Check.due("the fortieth by remember", x.remember(2), 39);
        Check.due("entries then", x.count(3), 40);
        Check.due("its alike segment takes no room", x.translate(0, 1, 2), 1);
    }

    private static void entriesAreNumberedInTheOrderInWhichTheyCame() {
        Check.sentence("numbered from 0 in the order in which they came");
        MatchBureau x = Check.withPersons(1);
        Check.due("remember", Check.entryWith(x, "q r s", 5), 0);
        Check.fileWith(x, "a.b c");
        x.take(0, 0);
        x.translate(0, 1, 6);
        x.translate(0, 0, 7);
        Check.due("remember", Check.entryWith(x, "q r s t", 8), 3);
        int[] words = {3, 2, 1, 4};
        for (int i = 0; i < 4; i++) {
            Check.due("words of " + i, x.entry(i, 0), words[i]);
            Check.due("target of " + i, x.entry(i, 1), 5 + i);
        }
    }

    private static void noTwoEntriesAreAlike() {
        Check.sentence("An entry has a segment (no two have alike ones)");
        MatchBureau x = Check.withPersons(1);
        Check.fileWith(x, "a b.a b.c");
        x.take(0, 0);
        x.translate(0, 0, 5);
        x.translate(0, 1, 6);
        Check.due("entries after two translations", x.count(3), 1);
        Check.due("remember an alike one", Check.entryWith(x, "a b", 7), -4);
        Check.entryWith(x, "c", 7);
        x.translate(0, 2, 7);
        Check.due("entries then", x.count(3), 2);
    }

    private static void anEntryIsNotSettledAtFirst() {
        Check.sentence("and is settled or not (at first not)");
        MatchBureau x = Check.withPersons(1);
        Check.entryWith(x, "a", 5);
        Check.fileWith(x, "b.a");
        x.take(0, 0);
        x.translate(0, 0, 5);
        Check.due("by remember", x.entry(0, 2), 0);
        Check.due("by translate", x.entry(1, 2), 0);
        x.translate(0, 1, 6);
        Check.due("disputed", x.entry(0, 2), 0);
        x.settle(0, 0);
        Check.due("settled", x.entry(0, 2), 1);
        Check.due("the other one", x.entry(1, 2), 0);
    }

    private static void theGreatestMatch() {
        Check.sentence("The match of a segment is its greatest match with an entry");
        MatchBureau x = new MatchBureau();
        Check.fileWith(x, "a b c d");
        String[] entries = {"a", "d c b a", "a b c", "a b", "a b c d e f g h"};
        int[] matches = {25, 25, 75, 75, 75};
        int[] entry = {0, 0, 2, 2, 2};
        for (int i = 0; i < entries.length; i++) {
            Check.entryWith(x, entries[i], 1);
            Check.due("match with " + entries[i], x.segment(0, 0, 3), matches[i]);
            Check.due("entry with " + entries[i], x.segment(0, 0, 4), entry[i]);
        }
        MatchBureau y = new MatchBureau();
        Check.fileWith(y, "z");
        for (int i = 0; i < 39; i++) {
            Check.entryWith(y, Check.word(i), 1);
        }
        Check.entryWith(y, "z", 1);
        Check.due("the match with the last of 40", y.segment(0, 0, 3), 100);
        Check.due("the last of 40", y.segment(0, 0, 4), 39);
    }

    private static void theMatchWithoutEntries() {
        Check.sentence("(0 without entries)");
        MatchBureau x = new MatchBureau();
        Check.fileWith(x, "a");
        Check.due("match", x.segment(0, 0, 3), 0);
        Check.due("entry", x.segment(0, 0, 4), -5);
        Check.due("band", x.segment(0, 0, 5), 5);
        x.remember(1);
        x.undo();
        Check.due("match after undo", x.segment(0, 0, 3), 0);
        Check.due("entry after undo", x.segment(0, 0, 4), -5);
    }

    private static void ofSeveralTheLowestEntry() {
        Check.sentence("its entry is that one (of several the one with the lowest number");
        MatchBureau x = new MatchBureau();
        Check.fileWith(x, "a b");
        Check.entryWith(x, "x y", 1);
        Check.entryWith(x, "x b", 1);
        Check.entryWith(x, "a x", 1);
        Check.entryWith(x, "a", 1);
        Check.due("of three with 50", x.segment(0, 0, 4), 1);
        Check.due("their match", x.segment(0, 0, 3), 50);
    }

    private static void noEntryIfTheMatchIsZero() {
        Check.sentence("none if its match is 0)");
        MatchBureau x = new MatchBureau();
        Check.fileWith(x, "a b.a b c d e f g h");
        Check.entryWith(x, "b a", 1);
        Check.due("match 0", x.segment(0, 0, 3), 0);
        Check.due("no entry", x.segment(0, 0, 4), -5);
        Check.due("the least match", x.segment(0, 1, 3), 12);
        Check.due("its entry", x.segment(0, 1, 4), 0);
    }

    // ---- files

    private static void files() {
        atMost8Files();
        atMost12Segments();
        aFileIsOpenAtFirst();
        filesInHand();
        filesAreInTheOrderOfTheirNumbersAtFirst();
        aSegmentHasNoTargetAtFirst();
        theWaysOfASegment();
    }

    private static void atMost8Files() {
        Check.sentence("There are at most 8 files, numbered from 0");
        MatchBureau x = new MatchBureau();
        for (int i = 0; i < 8; i++) {
            Check.due("newFile()", x.newFile(), i);
        }
        Check.due("file(7, 0)", x.file(7, 0), 0);
        Check.due("file(8, 0)", x.file(8, 0), -1);
        for (int i = 0; i < 8; i++) {
            x.withdraw(i);
        }
        Check.due("a ninth when all are withdrawn", x.newFile(), -3);
        Check.due("files", x.count(0), 8);
    }

    private static void atMost12Segments() {
        Check.sentence("each of at most 12 segments, numbered from 0");
        MatchBureau x = new MatchBureau();
        Check.fileWith(x, TWELVE);
        Check.due("segments", x.file(0, 1), 12);
        Check.due("segment 0", x.charAt(0, 0, 0), 'a');
        Check.due("segment 11", x.charAt(0, 11, 0), 'l');
        Check.due("segment 12", x.charAt(0, 12, 0), -1);
        Check.due("segment -1", x.charAt(0, -1, 0), -1);
        Check.text(x, "m");
        Check.due("a thirteenth", x.readSegments(0), -3);
        x.newFile();
        x.readSegments(1);
        Check.text(x, TWELVE);
        Check.due("one and twelve", x.readSegments(1), -3);
        Check.text(x, "b.c.d.e.f.g.h.i.j.k.l");
        Check.due("one and eleven", x.readSegments(1), 12);
    }

    private static void aFileIsOpenAtFirst() {
        Check.sentence("A file is open (at first), taken, in review, delivered, or withdrawn");
        MatchBureau x = Check.withPersons(1, 1);
        Check.entryWith(x, "a", 1);
        Check.fileWith(x, "a");
        Check.due("open", x.file(0, 0), 0);
        x.take(0, 0);
        Check.due("taken", x.file(0, 0), 1);
        x.review(0, 1);
        Check.due("in review", x.file(0, 0), 2);
        x.deliver(0);
        Check.due("delivered", x.file(0, 0), 3);
        x.newFile();
        x.withdraw(1);
        Check.due("withdrawn", x.file(1, 0), 4);
    }

    /** Files 0 to 4 with "a" in the states 0 to 4, in a bureau with the entry "a". */
    static MatchBureau fiveStates() {
        MatchBureau x = Check.withPersons(10, 20, 30);
        Check.entryWith(x, "a", 3);
        for (int i = 0; i < 5; i++) {
            Check.fileWith(x, "a");
        }
        x.take(1, 0);
        x.take(2, 0);
        x.take(3, 1);
        x.review(2, 1);
        x.review(3, 0);
        x.deliver(3);
        x.take(4, 2);
        x.withdraw(4);
        return x;
    }

    private static void filesInHand() {
        Check.sentence("The files that are open, taken or in review are in hand");
        MatchBureau x = fiveStates();
        for (int i = 0; i < 5; i++) {
            Check.due("state of " + i, x.file(i, 0), i);
            Check.due("a band of " + i, x.segment(i, 0, 5) == -5 ? 0 : 1, i <= 2 ? 1 : 0);
            Check.due("words of " + i, x.wordsIn(i, 5), i <= 2 ? 0 : -5);
            Check.due("a price of " + i, x.price(i, 0) == -5 ? 0 : 1, i <= 2 ? 1 : 0);
        }
        Check.due("files in hand", x.count(1), 3);
        Check.due("words in hand", x.count(6), 3);
        Check.due("alike in hand", x.entry(0, 4), 3);
    }

    private static void filesAreInTheOrderOfTheirNumbersAtFirst() {
        Check.sentence("Files have an order: at first by their numbers");
        MatchBureau x = new MatchBureau();
        for (int i = 0; i < 8; i++) {
            x.newFile();
        }
        for (int i = 0; i < 8; i++) {
            Check.due("fileAt(" + i + ")", x.fileAt(i), i);
            Check.due("place of " + i, x.file(i, 3), i);
        }
    }

    private static void aSegmentHasNoTargetAtFirst() {
        Check.sentence("Each segment of a file has a target, or none (at first)");
        MatchBureau x = new MatchBureau();
        Check.entryWith(x, "a", 3);
        Check.fileWith(x, "a.b");
        Check.due("with an alike entry", x.segment(0, 0, 1), -5);
        Check.due("its way", x.segment(0, 0, 2), 0);
        Check.due("without one", x.segment(0, 1, 1), -5);
        Check.due("segments without a target", x.file(0, 8), 2);
    }

    private static void theWaysOfASegment() {
        Check.sentence("0 none, 1 translated, 2 spread, 3 from the memory, 4 settled");
        MatchBureau x = Check.withPersons(1);
        Check.entryWith(x, "a", 3);
        Check.fileWith(x, "a.b.b.c.d");
        x.take(0, 0);
        x.translate(0, 1, 5);
        x.translate(0, 4, 5);
        x.translate(0, 4, 6);
        x.settle(0, 0);
        int[] ways = {3, 1, 2, 0, 4};
        for (int i = 0; i < 5; i++) {
            Check.due("way of " + i, x.segment(0, i, 2), ways[i]);
            Check.due("segments in way " + i, x.count(10 + i), 1);
        }
    }

    // ---- bands

    private static void bands() {
        aRepeatStandsBehindAnAlikeOne();
        aRepeatIsOfFilesInHand();
        aRepeatIsInTheBand0();
        theBandsByMatch();
        theSharesAtFirst();
        aShareIsFrom0To100();
        thePriceIsRoundedDownInEachBand();
        thePriceIsByTheWordsOfTheBand();
    }

    private static void aRepeatStandsBehindAnAlikeOne() {
        Check.sentence("in a file that is ahead in the order, or in the same file with a lower number");
        MatchBureau x = new MatchBureau();
        Check.fileWith(x, "a.b.a");
        Check.fileWith(x, "b.c");
        Check.due("the first one", x.segment(0, 0, 5), 5);
        Check.due("a lower number in the same file", x.segment(0, 2, 5), 0);
        Check.due("with an alike one behind it alone", x.segment(0, 1, 5), 5);
        Check.due("a file ahead, a higher number there", x.segment(1, 0, 5), 0);
        Check.due("alike to none", x.segment(1, 1, 5), 5);
        x.swapFiles(0, 1);
        Check.due("ahead in the order, a higher file number", x.segment(0, 1, 5), 0);
        Check.due("a lower file number behind it", x.segment(1, 0, 5), 5);
        Check.due("the same file as before", x.segment(0, 2, 5), 0);
    }

    private static void aRepeatIsOfFilesInHand() {
        Check.sentence("A segment of a file in hand is a repeat if ... stands ahead of it in a file in hand");
        MatchBureau x = fiveStates();
        Check.fileWith(x, "a");
        int[] sources = {-5, 0, 100, -5, -5, 200};
        for (int i = 0; i < 6; i++) {
            Check.due("what makes file " + i + " a repeat", x.segment(i, 0, 6), sources[i]);
        }
        x.withdraw(2);
        Check.due("the nearest is withdrawn", x.segment(5, 0, 6), 100);
        x.withdraw(1);
        Check.due("the taken one, too", x.segment(5, 0, 6), 0);
        x.withdraw(0);
        Check.due("none is left", x.segment(5, 0, 6), -5);
        Check.due("then its match tells", x.segment(5, 0, 5), 1);
    }

    private static void aRepeatIsInTheBand0() {
        Check.sentence("A repeat is in the band 0. The others are in a band by their match");
        MatchBureau x = new MatchBureau();
        Check.entryWith(x, "a b", 1);
        Check.fileWith(x, "a b.a b.a c.a c.z.z");
        int[] band = {1, 0, 4, 0, 5, 0};
        for (int i = 0; i < 6; i++) {
            Check.due("band of " + i, x.segment(0, i, 5), band[i]);
        }
    }

    private static void band(String segment, String entry, int match, int band) {
        MatchBureau x = new MatchBureau();
        Check.fileWith(x, segment);
        Check.entryWith(x, entry, 1);
        Check.due("match of " + segment + " with " + entry, x.segment(0, 0, 3), match);
        Check.due("band of " + segment + " with " + entry, x.segment(0, 0, 5), band);
        for (int other = 0; other <= 5; other++) {
            Check.due("words in " + other, x.wordsIn(0, other), other == band ? x.segment(0, 0, 0) : 0);
        }
    }

    private static void theBandsByMatch() {
        Check.sentence("1 if it is 100, 2 from 85 on, 3 from 75 on, 4 from 50 on, otherwise 5");
        band("a b c d e f g h", "a b c d e f g h", 100, 1);
        band("a b c d e f g h", "a b c d e f g x", 87, 2);
        band("a b c d e f g", "a b c d e f x", 85, 2);
        band("a b c d e f", "a b c d e x", 83, 3);
        band("a b c d e", "a b c d x", 80, 3);
        band("a b c d", "a b c x", 75, 3);
        band("a b c d e f g h", "a b c d e f x y", 75, 3);
        band("a b c d e f g", "a b c d e x y", 71, 4);
        band("a b c", "a b x", 66, 4);
        band("a b", "a x", 50, 4);
        band("a b c d e f g h", "a b c d w x y z", 50, 4);
        band("a b c d e f g", "a b c w x y z", 42, 5);
        band("a b c d e f g h", "a", 12, 5);
        band("a", "b", 0, 5);
    }

    private static void theSharesAtFirst() {
        Check.sentence("at first 10, 20, 40, 60, 80 and 100");
        MatchBureau x = new MatchBureau();
        int[] shares = {10, 20, 40, 60, 80, 100};
        for (int band = 0; band <= 5; band++) {
            Check.due("setShare(" + band + ", its share)", x.setShare(band, shares[band]), -5);
            Check.due("setShare(" + band + ", 1)", x.setShare(band, 1), shares[band]);
        }
    }

    private static void aShareIsFrom0To100() {
        Check.sentence("Each band has a share in percent (0 to 100)");
        MatchBureau x = Check.withPersons(7);
        Check.fileWith(x, "a");
        Check.due("setShare(5, -1)", x.setShare(5, -1), -2);
        Check.due("setShare(5, 101)", x.setShare(5, 101), -2);
        Check.due("setShare(5, 0)", x.setShare(5, 0), 100);
        Check.due("price at 0", x.price(0, 0), 0);
        Check.due("setShare(5, 100)", x.setShare(5, 100), 0);
        Check.due("price at 100", x.price(0, 0), 7);
        Check.due("setShare(5, 99)", x.setShare(5, 99), 100);
        Check.due("price at 99", x.price(0, 0), 6);
        Check.due("setShare(0, 1)", x.setShare(0, 1), 10);
    }

    private static void thePriceIsRoundedDownInEachBand() {
        Check.sentence("summed up over the bands, words * rate * share / 100 (each rounded down)");
        MatchBureau x = Check.withPersons(1, 50);
        Check.entryWith(x, "a b", 1);
        Check.fileWith(x, "a b.a b.a c.z");
        Check.due("2 * 10, 2 * 20, 2 * 80, 1 * 100", x.price(0, 0), 0 + 0 + 1 + 1);
        Check.due("for a rate of 50", x.price(0, 1), 10 + 20 + 80 + 50);
        x.setShare(0, 49);
        x.setShare(1, 49);
        x.setShare(4, 49);
        Check.due("three of 0.98, and 1", x.price(0, 0), 1);
        x.setShare(0, 50);
        Check.due("one of 1.00", x.price(0, 0), 2);
        x.setShare(5, 99);
        Check.due("one of 0.99", x.price(0, 0), 1);
        Check.due("not rounded by the word", x.price(0, 1), 50 + 49 + 49 + 49);
    }

    private static void thePriceIsByTheWordsOfTheBand() {
        Check.sentence("where words are those of the segments of the file in this band");
        MatchBureau x = Check.withPersons(1);
        Check.fileWith(x, "a.b.c.d e");
        Check.fileWith(x, "a.b.c.q");
        x.setShare(5, 50);
        x.setShare(0, 40);
        Check.due("5 * 50, not one by one", x.price(0, 0), 2);
        Check.due("3 * 40 and 1 * 50", x.price(1, 0), 1);
        Check.due("of an empty file", x.price(x.newFile(), 0), 0);
        MatchBureau y = Check.withPersons(50);
        Check.fileWith(y, "a b c d e f g h.b b c d e f g h.c b c d e f g h");
        y.readSegments(0);
        y.readSegments(0);
        y.readSegments(0);
        Check.due("96 words", y.price(0, 0), 24 * 50 + 72 * 50 / 10);
    }

    // ---- persons

    private static void persons() {
        atMost6Persons();
        aRateIsFrom1To50();
        twoPersonsAreBarredFromOneAnother();
        mayReviewIfTheFileIsTaken();
        mayReviewIfNotItsTranslator();
        mayReviewIfNotBarred();
        mayReviewIfTheLastFileWasNotGivenToThisPerson();
        theLastFileWhateverBecameOfIt();
        theLastFileIfThisVeryFileWasRejected();
        theLastFileOfThisTranslatorAlone();
    }

    private static void atMost6Persons() {
        Check.sentence("There are at most 6 persons, numbered from 0");
        MatchBureau x = new MatchBureau();
        for (int i = 0; i < 6; i++) {
            Check.due("addPerson", x.addPerson(10 + i), i);
        }
        Check.due("a seventh", x.addPerson(1), -3);
        Check.due("person(5, 0)", x.person(5, 0), 15);
        Check.due("person(6, 0)", x.person(6, 0), -1);
        Check.due("person(-1, 0)", x.person(-1, 0), -1);
    }

    private static void aRateIsFrom1To50() {
        Check.sentence("each with a rate (1 to 50 pence a word)");
        int[] wrong = {0, 51, -1, 52, 257, 65537, Integer.MIN_VALUE, Integer.MAX_VALUE};
        MatchBureau x = new MatchBureau();
        for (int rate : wrong) {
            Check.due("addPerson(" + rate + ")", x.addPerson(rate), -2);
        }
        Check.due("addPerson(1)", x.addPerson(1), 0);
        Check.due("addPerson(50)", x.addPerson(50), 1);
        Check.fileWith(x, "a b c");
        Check.due("price at 1", x.price(0, 0), 3);
        Check.due("price at 50", x.price(0, 1), 150);
    }

    private static void twoPersonsAreBarredFromOneAnother() {
        Check.sentence("Two persons can be barred from one another");
        MatchBureau x = Check.withPersons(1, 1, 1, 1, 1, 1);
        x.bar(0, 5, true);
        Check.due("bars of 0", x.person(0, 1), 32);
        Check.due("bars of 5", x.person(5, 1), 1);
        Check.due("the other way", x.bar(5, 0, true), -5);
        x.bar(5, 0, false);
        Check.due("bars of 0 then", x.person(0, 1), 0);
        Check.due("bars of 5 then", x.person(5, 1), 0);
    }

    private static void mayReview(MatchBureau x, int file, int person, boolean may) {
        Check.due("review(" + file + ", " + person + ")", x.review(file, person) >= 0 ? 1 : 0, may ? 1 : 0);
    }

    private static void mayReviewIfTheFileIsTaken() {
        Check.sentence("A person may review a taken file");
        MatchBureau x = fiveStates();
        for (int i = 0; i < 5; i++) {
            Check.due("firstReviewer(" + i + ")", x.firstReviewer(i), i == 1 ? 2 : -5);
        }
        mayReview(x, 0, 2, false);
        mayReview(x, 2, 2, false);
        mayReview(x, 3, 2, false);
        mayReview(x, 4, 0, false);
        mayReview(x, 1, 2, true);
    }

    private static void mayReviewIfNotItsTranslator() {
        Check.sentence("if this is not its translator");
        MatchBureau x = Check.withPersons(1, 1);
        Check.entryWith(x, "a", 1);
        Check.fileWith(x, "a");
        x.take(0, 1);
        mayReview(x, 0, 1, false);
        Check.due("firstReviewer(0)", x.firstReviewer(0), 0);
        mayReview(x, 0, 0, true);
    }

    private static void mayReviewIfNotBarred() {
        Check.sentence("both are not barred");
        MatchBureau x = Check.withPersons(1, 1, 1);
        Check.entryWith(x, "a", 1);
        Check.fileWith(x, "a");
        x.take(0, 1);
        x.bar(0, 1, true);
        mayReview(x, 0, 0, false);
        Check.due("firstReviewer(0)", x.firstReviewer(0), 2);
        x.bar(1, 2, true);
        mayReview(x, 0, 2, false);
        Check.due("firstReviewer(0) with two bars", x.firstReviewer(0), -5);
        x.bar(1, 0, false);
        x.bar(0, 2, true);
        Check.due("a bar of the reviewer alone", x.firstReviewer(0), 0);
        mayReview(x, 0, 0, true);
    }

    /** Five files with "a", taken by 0 (files 0 to 3) and by 1 (file 4), and four persons. */
    private static MatchBureau fiveTaken() {
        MatchBureau x = Check.withPersons(1, 1, 1, 1);
        Check.entryWith(x, "a", 1);
        for (int i = 0; i < 5; i++) {
            Check.fileWith(x, "a");
            x.take(i, i / 4);
        }
        return x;
    }

    private static void mayReviewIfTheLastFileWasNotGivenToThisPerson() {
        Check.sentence("the last file of this translator that came into review was not given to this person");
        MatchBureau x = fiveTaken();
        Check.due("with no last file", x.firstReviewer(1), 1);
        mayReview(x, 0, 1, true);
        Check.due("with a last file", x.firstReviewer(1), 2);
        mayReview(x, 1, 1, false);
        mayReview(x, 1, 2, true);
        mayReview(x, 2, 2, false);
        mayReview(x, 2, 1, true);
        mayReview(x, 3, 1, false);
        Check.due("only the last one counts", x.firstReviewer(3), 2);
    }

    private static void theLastFileWhateverBecameOfIt() {
        Check.sentence("(whatever became of it since");
        for (int fate = 0; fate < 4; fate++) {
            MatchBureau x = fiveTaken();
            x.review(0, 1);
            if (fate == 1) {
                x.deliver(0);
            } else if (fate == 2) {
                x.withdraw(0);
            } else if (fate == 3) {
                x.reject(0, 0);
            }
            mayReview(x, 1, 1, false);
            Check.due("firstReviewer(1)", x.firstReviewer(1), 2);
            mayReview(x, 1, 2, true);
        }
        MatchBureau x = fiveTaken();
        x.review(0, 1);
        x.undo();
        mayReview(x, 1, 1, true);
    }

    private static void theLastFileIfThisVeryFileWasRejected() {
        Check.sentence("this very file, too, if it was rejected)");
        MatchBureau x = fiveTaken();
        x.review(0, 1);
        x.reject(0, 0);
        x.translate(0, 0, 1);
        mayReview(x, 0, 1, false);
        mayReview(x, 0, 2, true);
        x.reject(0, 0);
        x.translate(0, 0, 1);
        mayReview(x, 0, 2, false);
        mayReview(x, 0, 1, true);
    }

    private static void theLastFileOfThisTranslatorAlone() {
        Check.sentence("the last file of this translator");
        MatchBureau x = fiveTaken();
        mayReview(x, 0, 2, true);
        mayReview(x, 4, 2, true);
        mayReview(x, 1, 2, false);
        x.reject(4, 0);
        x.translate(4, 0, 1);
        mayReview(x, 4, 2, false);
        Check.due("the reviewer's own files", x.person(2, 7), -5);
        mayReview(x, 4, 0, true);
        mayReview(x, 1, 1, true);
    }

    // ---- spreading

    private static void spreading() {
        aTargetSpreadsToSegmentsWithoutOne();
        aTargetSpreadsInTakenFiles();
        aTargetSpreadsToAlikeSegments();
        aTargetSpreadsInTheWay2();
    }

    private static void aTargetSpreadsToSegmentsWithoutOne() {
        Check.sentence("each segment without a target");
        MatchBureau x = Check.withPersons(1, 1);
        Check.entryWith(x, "z", 9);
        Check.fileWith(x, "a.a.z");
        Check.fileWith(x, "a.z");
        x.take(0, 0);
        x.take(1, 1);
        Check.due("translate", x.translate(0, 1, 5), 3);
        Check.due("again with another target", x.translate(0, 1, 6), 1);
        Check.due("one that has a target", x.segment(0, 0, 1), 5);
        Check.due("one of the other file", x.segment(1, 0, 1), 5);
        Check.due("one from the memory", x.translate(1, 1, 8), 1);
        Check.due("the other one keeps that", x.segment(0, 2, 1), 9);
        Check.due("and its way", x.segment(0, 2, 2), 3);
    }

    private static void aTargetSpreadsInTakenFiles() {
        Check.sentence("in a taken file");
        MatchBureau x = Check.withPersons(1, 1);
        Check.fileWith(x, "a.b");
        for (int i = 1; i < 6; i++) {
            Check.fileWith(x, "b");
        }
        x.take(0, 0);
        x.take(2, 0);
        x.take(3, 0);
        x.withdraw(3);
        x.withdraw(4);
        x.take(5, 1);
        x.swapFiles(0, 5);
        Check.due("translate", x.translate(0, 1, 5), 3);
        int[] targets = {-5, 5, -5, -5, 5};
        for (int i = 1; i < 6; i++) {
            Check.due("target in file " + i, x.segment(i, 0, 1), targets[i - 1]);
        }
        x.withdraw(0);
        x.review(2, 1);
        x.reject(2, 0);
        Check.due("a rejected segment gets it again", x.translate(5, 0, 6), 2);
        Check.due("its target", x.segment(2, 0, 1), 6);
        Check.due("its way", x.segment(2, 0, 2), 2);
    }

    private static void aTargetSpreadsToAlikeSegments() {
        Check.sentence("that is alike gets this target");
        MatchBureau x = Check.withPersons(1);
        Check.fileWith(x, "a b.b a.a.a b c.a b.ab");
        x.take(0, 0);
        Check.due("translate", x.translate(0, 0, 5), 2);
        int[] targets = {5, -5, -5, -5, 5, -5};
        for (int i = 0; i < 6; i++) {
            Check.due("target of " + i, x.segment(0, i, 1), targets[i]);
        }
    }

    private static void aTargetSpreadsInTheWay2() {
        Check.sentence("gets this target, in the way 2");
        MatchBureau x = Check.withPersons(1);
        Check.fileWith(x, TWELVE.replaceAll("[b-l]", "a"));
        x.take(0, 0);
        Check.due("translate in the midst", x.translate(0, 5, 999), 12);
        for (int i = 0; i < 12; i++) {
            Check.due("target of " + i, x.segment(0, i, 1), 999);
            Check.due("way of " + i, x.segment(0, i, 2), i == 5 ? 1 : 2);
        }
    }

    // ---- disputes

    private static void disputes() {
        atMost10Disputes();
        aDisputeIsForAnEntryThatIsNotSettled();
        aDisputeHasTwoTargets();
        aDisputeIsOpenUntilItIsSettled();
        atMostOneOpenDisputeForAnEntry();
    }

    /** File 0 is taken, with the segments of TWELVE, all of them with the target 1. */
    private static MatchBureau translated() {
        MatchBureau x = Check.withPersons(1, 1);
        Check.fileWith(x, TWELVE);
        x.take(0, 0);
        for (int i = 0; i < 12; i++) {
            x.translate(0, i, 1);
        }
        return x;
    }

    private static void atMost10Disputes() {
        Check.sentence("There are at most 10 disputes, numbered from 0");
        MatchBureau x = translated();
        for (int i = 0; i < 10; i++) {
            Check.due("translate(0, " + i + ", 2)", x.translate(0, i, 2), 1);
            Check.due("entry of " + i, x.dispute(i, 0), i);
        }
        Check.due("disputes", x.count(4), 10);
        Check.due("dispute(9, 3)", x.dispute(9, 3), 0);
        Check.due("dispute(10, 3)", x.dispute(10, 3), -1);
        Check.due("an eleventh", x.translate(0, 10, 2), -3);
        for (int i = 0; i < 10; i++) {
            x.settle(i, 0);
        }
        Check.due("settled ones count, too", x.translate(0, 10, 2), -3);
        Check.due("disputes then", x.count(4), 10);
        Check.due("open ones", x.count(5), 0);
    }

    private static void aDisputeIsForAnEntryThatIsNotSettled() {
        Check.sentence("A dispute is for an entry that is not settled");
        MatchBureau x = translated();
        x.translate(0, 3, 2);
        x.settle(0, 1);
        Check.due("the target that it had", x.translate(0, 3, 1), -4);
        Check.due("a third one", x.translate(0, 3, 3), -4);
        Check.due("disputes", x.count(4), 1);
        Check.due("of another entry", x.translate(0, 4, 3), 1);
        Check.due("disputes then", x.count(4), 2);
    }

    private static void aDisputeHasTwoTargets() {
        Check.sentence("has two targets: that of the entry, and another one");
        MatchBureau x = translated();
        x.translate(0, 3, 999);
        Check.due("entry", x.dispute(0, 0), 3);
        Check.due("its target", x.dispute(0, 1), 1);
        Check.due("the other one", x.dispute(0, 2), 999);
        Check.due("the entry's own", x.entry(3, 1), 1);
        x.settle(0, 1);
        Check.due("the first one still", x.dispute(0, 1), 1);
        Check.due("the entry's own then", x.entry(3, 1), 999);
    }

    private static void aDisputeIsOpenUntilItIsSettled() {
        Check.sentence("it is open until it is settled");
        MatchBureau x = translated();
        x.translate(0, 3, 2);
        x.translate(0, 4, 2);
        x.translate(0, 3, 1);
        Check.due("open though the target is back", x.dispute(0, 3), 0);
        Check.due("open ones", x.count(5), 2);
        x.withdraw(0);
        Check.due("open though the file is withdrawn", x.count(5), 2);
        x.settle(1, 0);
        Check.due("open still", x.dispute(0, 3), 0);
        Check.due("settled", x.dispute(1, 3), 1);
        Check.due("open ones then", x.count(5), 1);
    }

    private static void atMostOneOpenDisputeForAnEntry() {
        Check.sentence("There is at most one open dispute for an entry");
        MatchBureau x = translated();
        x.translate(0, 3, 2);
        Check.due("a third target", x.translate(0, 3, 5), 1);
        Check.due("a fourth one", x.translate(0, 3, 6), 1);
        Check.due("disputes", x.count(4), 1);
        Check.due("its other target", x.dispute(0, 2), 2);
        Check.due("dispute of the entry", x.entry(3, 3), 0);
    }

    // ---- texts

    private static void texts() {
        aTextHasAtMost60Characters();
        aTextIsEmptyAtFirst();
        segmentsHaveAPointBetweenTwo();
        wordsHaveOneBlankBetweenTwo();
        theFaultIsTheFirstCharacterThatIsNotAllowed();
        aNinthLetterIsAFault();
        theBlankBehindAnEighthWordIsAFault();
        aTextThatEndsTooEarly();
    }

    private static void aTextHasAtMost60Characters() {
        Check.sentence("There is a text of at most 60 characters");
        String fifty = "abcdefgh abcdefgh abcdefgh abcdefgh abcdefgh abcde";
        MatchBureau x = new MatchBureau();
        Check.text(x, fifty + ".abcdefgh");
        Check.due("the sixtieth", x.type('.'), 60);
        Check.due("a sixty-first", x.type('a'), -3);
        Check.due("length", x.count(16), 60);
        x.newFile();
        Check.due("it was not put behind", x.readSegments(0), -160);
        Check.text(x, fifty + ".abcdefg.a!");
        Check.due("60 characters", x.count(16), 60);
        Check.due("the last one was not put in", x.readSegments(0), 3);
        Check.due("the characters of the first segment", x.charAt(0, 0, 49), 'e');
        Check.due("and no more", x.charAt(0, 0, 50), -5);
    }

    private static void aTextIsEmptyAtFirst() {
        Check.sentence("empty at first");
        MatchBureau x = new MatchBureau();
        Check.due("length", x.count(16), 0);
        Check.due("clearText()", x.clearText(), 0);
        Check.due("remember(1)", x.remember(1), -100);
        Check.due("the first one", x.type('a'), 1);
    }

    private static void segmentsHaveAPointBetweenTwo() {
        Check.sentence("A text of segments is one or more segments with \".\" between two");
        MatchBureau x = new MatchBureau();
        Check.fileWith(x, "a");
        Check.due("one segment", x.file(0, 1), 1);
        Check.fileWith(x, "a b.c");
        Check.due("two segments", x.file(1, 1), 2);
        Check.due("a point ahead", faultOf(".a"), 0);
        Check.due("a point behind", faultOf("a."), 2);
        Check.due("two points", faultOf("a..b"), 2);
        Check.due("a blank behind the point", faultOf("a. b"), 2);
        Check.due("a blank ahead of the point", faultOf("a .b"), 2);
        Check.due("a point alone", faultOf("."), 0);
        Check.due("thirty segments", faultOf("a.a.a.a.a.a.a.a.a.a.a.a.a.a.a.a.a.a.a.a.a.a.a.a.a.a.a.a.a.a"), -1);
    }

    private static void wordsHaveOneBlankBetweenTwo() {
        Check.sentence("the words of a segment have one blank between two");
        Check.due("one blank", faultOf("a b"), -1);
        Check.due("two blanks", faultOf("a  b"), 2);
        Check.due("a blank ahead", faultOf(" a"), 0);
        Check.due("a blank behind", faultOf("a "), 2);
        Check.due("a blank alone", faultOf(" "), 0);
        Check.due("another blank", faultOf("a\u00a0b"), 1);
    }

    private static void theFaultIsTheFirstCharacterThatIsNotAllowed() {
        Check.sentence("The fault of the text is the index, from 0, of the first character that is not allowed");
        Check.due("the first", faultOf("!a"), 0);
        Check.due("the second", faultOf("a!"), 1);
        Check.due("of two faults the first", faultOf("a!b?c"), 1);
        Check.due("ahead of an early end", faultOf("a!b."), 1);
        Check.due("the last of 60", faultOf("abcdefgh.abcdefgh.abcdefgh.abcdefgh.abcdefgh.abcdefgh.abcde!"), 59);
    }

    private static void aNinthLetterIsAFault() {
        Check.sentence("(a ninth letter of a word");
        Check.due("in the first word", faultOf("aaaaaaaaa"), 8);
        Check.due("in the second word", faultOf("a aaaaaaaaa"), 10);
        Check.due("in the second segment", faultOf("aaaaaaaa.aaaaaaaaa"), 17);
        Check.due("in the eighth word", faultOf("a b c d e f g aaaaaaaaa"), 22);
        Check.due("a tenth, too", faultOf("aaaaaaaaaa"), 8);
        Check.due("another sign than a letter there", faultOf("aaaaaaaa!"), 8);
    }

    private static void theBlankBehindAnEighthWordIsAFault() {
        Check.sentence("or the blank behind an eighth word, too)");
        Check.due("at the end", faultOf("a b c d e f g h "), 15);
        Check.due("with a ninth word", faultOf("a b c d e f g h i"), 15);
        Check.due("behind eight letters", faultOf("a b c d e f g hhhhhhhh i"), 22);
        Check.due("in the second segment", faultOf("z.a b c d e f g h i"), 17);
        Check.due("a point behind an eighth word", faultOf("a b c d e f g h.i"), -1);
        Check.due("the blank behind a seventh word", faultOf("a b c d e f g "), 14);
    }

    private static void aTextThatEndsTooEarly() {
        Check.sentence("or the length of the text if it ends too early (the empty text does)");
        Check.due("the empty one", faultOf(""), 0);
        Check.due("behind a blank", faultOf("ab "), 3);
        Check.due("behind a point", faultOf("ab."), 3);
        Check.due("behind the point of an eighth word", faultOf("a b c d e f g h."), 16);
        Check.due("at 60 characters", faultOf("abcdefgh.abcdefgh.abcdefgh.abcdefgh.abcdefgh.abcdefgh.abcde "), 60);
        Check.due("at 60 characters without a fault",
            faultOf("abcdefgh.abcdefgh.abcdefgh.abcdefgh.abcdefgh.abcdefgh.abcdef"), -1);
    }

    // ---- history

    private static void history() {
        atMost4States();
        undoRestoresTheLatestOne();
        theSnapshotIsEmptyAtFirst();
        oneSnapshot();
        aStateIsEverythingButTheText();
        aStateIsEverythingButTheHistory();
        aStateIsEverythingButTheSnapshot();
    }

    private static void atMost4States() {
        Check.sentence("A history of at most 4 states is kept; when one more is recorded, the oldest one is dropped");
        MatchBureau x = new MatchBureau();
        for (int i = 1; i <= 5; i++) {
            x.setShare(0, 20 + i);
            Check.due("states", x.count(15), Math.min(i, 4));
        }
        for (int left = 3; left >= 0; left--) {
            Check.due("undo()", x.undo(), left);
        }
        Check.due("the oldest one was dropped", x.setShare(0, 50), 21);
        MatchBureau y = new MatchBureau();
        for (int i = 1; i <= 4; i++) {
            y.setShare(0, 20 + i);
        }
        for (int left = 3; left >= 0; left--) {
            Check.due("undo() of four", y.undo(), left);
        }
        Check.due("none was dropped", y.setShare(0, 50), 10);
    }

    private static void undoRestoresTheLatestOne() {
        Check.sentence("undo() removes and restores the latest one");
        MatchBureau x = new MatchBureau();
        x.newFile();
        x.newFile();
        x.newFile();
        x.undo();
        Check.due("files", x.count(0), 2);
        x.undo();
        Check.due("files then", x.count(0), 1);
        x.addPerson(1);
        x.undo();
        Check.due("the new one is the latest", x.count(0) * 10 + x.count(2), 10);
        x.undo();
        Check.due("files at last", x.count(0), 0);
    }

    private static void theSnapshotIsEmptyAtFirst() {
        Check.sentence("There is one snapshot, empty at first");
        MatchBureau x = new MatchBureau();
        Check.due("restore()", x.restore(), -5);
        x.newFile();
        Check.due("restore() with a file", x.restore(), -5);
        Check.due("the file stays", x.count(0), 1);
        x.undo();
        Check.due("restore() after undo", x.restore(), -5);
    }

    private static void oneSnapshot() {
        Check.sentence("There is one snapshot");
        MatchBureau x = new MatchBureau();
        x.newFile();
        x.keep();
        x.newFile();
        x.keep();
        x.newFile();
        Check.due("the later one", x.restore(), 2);
        Check.due("and again", x.restore(), 2);
    }

    private static void aStateIsEverythingButTheText() {
        Check.sentence("A state is everything but the text");
        MatchBureau x = new MatchBureau();
        x.type('a');
        x.keep();
        x.newFile();
        x.type('b');
        x.undo();
        Check.due("length after undo", x.count(16), 2);
        x.clearText();
        x.restore();
        Check.due("length after restore", x.count(16), 0);
        x.type('c');
        x.undo();
        Check.due("the text is what was typed", x.remember(1), 0);
        x.newFile();
        x.readSegments(0);
        Check.due("its character", x.charAt(0, 0, 0), 'c');
    }

    private static void aStateIsEverythingButTheHistory() {
        Check.sentence("A state is everything but the history");
        MatchBureau x = new MatchBureau();
        x.keep();
        x.newFile();
        x.newFile();
        x.restore();
        Check.due("states after restore", x.count(15), 3);
        Check.due("undo() after restore", x.undo(), 2);
        Check.due("files", x.count(0), 2);
        Check.due("undo() of a file", x.undo(), 1);
        Check.due("files then", x.count(0), 1);
    }

    private static void aStateIsEverythingButTheSnapshot() {
        Check.sentence("A state is everything but the snapshot");
        MatchBureau x = new MatchBureau();
        x.newFile();
        x.newFile();
        x.keep();
        x.undo();
        Check.due("restore() after undo", x.restore(), 2);
        x.undo();
        x.keep();
        x.newFile();
        x.undo();
        x.undo();
        Check.due("files before", x.count(0), 0);
        Check.due("restore() of the later one", x.restore(), 1);
        Check.due("restore() of it again", x.restore(), 1);
    }
}
