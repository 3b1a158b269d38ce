/** Each sentence of the promises 1 to 20 that names a boundary case, with a test of its own. */
public final class ActsEdgesTest {
    private static final String TWELVE = "a.b.c.d.e.f.g.h.i.j.k.l";

    public static void main(String[] args) {
        promise1();
        promise2();
        promise3();
        promise4();
        promise5();
        promise6();
        promise7();
        promise8();
        promise9();
        promise10();
        promise11();
        promise12();
        promise13();
        promise14();
        promise15();
        promise16();
        promise17();
        promise18();
        promise19();
        promise20();
        slotsThatAreUsedAgain();
        Check.finish("ActsEdgesTest");
    }

    // ---- persons and shares

    private static void promise1() {
        Check.sentence("1: Creates a bureau without files, persons and entries");
        MatchBureau x = new MatchBureau();
        for (int what = 0; what <= 16; what++) {
            Check.due("count(" + what + ")", x.count(what), 0);
        }
        Check.due("file(0, 0)", x.file(0, 0), -1);
        Check.due("person(0, 0)", x.person(0, 0), -1);
        Check.due("entry(0, 0)", x.entry(0, 0), -1);
        Check.due("dispute(0, 0)", x.dispute(0, 0), -1);
        MatchBureau y = new MatchBureau();
        x.addPerson(1);
        x.newFile();
        Check.due("another object's persons", y.count(2), 0);
        Check.due("another object's files", y.count(0), 0);
    }

    private static void promise2() {
        Check.sentence("2: Returns the person's number; BAD_VALUE; FULL if there are 6");
        MatchBureau x = new MatchBureau();
        Check.due("addPerson(0)", x.addPerson(0), -2);
        Check.due("addPerson(51)", x.addPerson(51), -2);
        for (int i = 0; i < 6; i++) {
            Check.due("addPerson of " + i, x.addPerson(i == 0 ? 1 : 50), i);
        }
        Check.due("addPerson(1) of six", x.addPerson(1), -3);
        Check.due("addPerson(50) of six", x.addPerson(50), -3);
        Check.sentence("2: BAD_VALUE is ahead of FULL");
        Check.due("addPerson(0) of six", x.addPerson(0), -2);
        Check.due("addPerson(51) of six", x.addPerson(51), -2);
        x.undo();
        Check.sentence("2: FULL if there are 6, not if there were");
        Check.due("addPerson(2) after undo", x.addPerson(2), 5);
    }

    private static void promise3() {
        Check.sentence("3: Returns from how many persons the first one is barred then");
        MatchBureau x = Check.withPersons(1, 1, 1, 1, 1, 1);
        for (int i = 0; i < 5; i++) {
            Check.due("bar(5, " + i + ", true)", x.bar(5, i, true), i + 1);
        }
        Check.due("person(5, 1)", x.person(5, 1), 31);
        Check.due("the first one counts, not the other", x.bar(4, 3, true), 2);
        Check.due("bar(3, 5, false)", x.bar(3, 5, false), 1);
        Check.due("bar(3, 4, false)", x.bar(3, 4, false), 0);
        Check.sentence("3: UNKNOWN");
        Check.due("bar(6, 0, true)", x.bar(6, 0, true), -1);
        Check.due("bar(0, 6, true)", x.bar(0, 6, true), -1);
        Check.due("bar(-1, 0, true)", x.bar(-1, 0, true), -1);
        Check.due("bar(0, -1, true)", x.bar(0, -1, true), -1);
        Check.due("bar(32, 0, true)", x.bar(32, 0, true), -1);
        Check.due("bar(0, 32, true)", x.bar(0, 32, true), -1);
        Check.sentence("3: UNKNOWN is ahead of BAD_VALUE and NONE");
        Check.due("bar(6, 6, true)", x.bar(6, 6, true), -1);
        Check.due("bar(-1, -1, false)", x.bar(-1, -1, false), -1);
        Check.due("bar(0, 6, false)", x.bar(0, 6, false), -1);
        Check.sentence("3: BAD_VALUE if both are the same");
        Check.due("bar(0, 0, true)", x.bar(0, 0, true), -2);
        Check.due("bar(5, 5, true)", x.bar(5, 5, true), -2);
        Check.due("bar(0, 0, false), ahead of NONE", x.bar(0, 0, false), -2);
        Check.sentence("3: NONE if it is so already");
        Check.due("bar(5, 0, true)", x.bar(5, 0, true), -5);
        Check.due("bar(0, 5, true)", x.bar(0, 5, true), -5);
        Check.due("bar(3, 5, false)", x.bar(3, 5, false), -5);
        Check.due("bar(5, 3, false)", x.bar(5, 3, false), -5);
    }

    private static void promise4() {
        Check.sentence("4: Returns the previous share");
        MatchBureau x = new MatchBureau();
        Check.due("setShare(0, 0)", x.setShare(0, 0), 10);
        Check.due("setShare(0, 100)", x.setShare(0, 100), 0);
        Check.due("setShare(0, 50)", x.setShare(0, 50), 100);
        Check.due("setShare(5, 0)", x.setShare(5, 0), 100);
        Check.sentence("4: BAD_VALUE");
        Check.due("setShare(-1, 50)", x.setShare(-1, 50), -2);
        Check.due("setShare(6, 50)", x.setShare(6, 50), -2);
        Check.due("setShare(0, -1)", x.setShare(0, -1), -2);
        Check.due("setShare(0, 101)", x.setShare(0, 101), -2);
        Check.due("setShare(5, -1)", x.setShare(5, -1), -2);
        Check.due("setShare(5, 101)", x.setShare(5, 101), -2);
        Check.due("setShare(-1, -1)", x.setShare(-1, -1), -2);
        Check.due("setShare(min, 0)", x.setShare(Integer.MIN_VALUE, 0), -2);
        Check.due("setShare(0, max)", x.setShare(0, Integer.MAX_VALUE), -2);
        Check.sentence("4: NONE if it is so already");
        Check.due("setShare(0, 50) again", x.setShare(0, 50), -5);
        Check.due("setShare(5, 0) again", x.setShare(5, 0), -5);
        Check.due("setShare(1, 20) at first", x.setShare(1, 20), -5);
        Check.due("a share of another band", x.setShare(1, 10), 20);
    }

    // ---- texts

    private static void promise5() {
        Check.sentence("5: Returns the length of the text then; FULL if it has 60 characters");
        MatchBureau x = new MatchBureau();
        for (int i = 1; i <= 60; i++) {
            Check.due("type " + i, x.type('a'), i);
        }
        Check.due("type 61", x.type('a'), -3);
        Check.due("type 62", x.type('a'), -3);
        Check.due("length", x.count(16), 60);
        Check.sentence("5: character: any character");
        MatchBureau y = new MatchBureau();
        char[] any = {0, ' ', '.', 'A', 127, 128, 255, 256, 0xd800, 0xffff};
        for (int i = 0; i < any.length; i++) {
            Check.due("type " + (int) any[i], y.type(any[i]), i + 1);
        }
    }

    private static void promise6() {
        Check.sentence("6: Returns the length that it had");
        MatchBureau x = new MatchBureau();
        Check.due("of the empty one", x.clearText(), 0);
        x.type('a');
        Check.due("of one character", x.clearText(), 1);
        for (int i = 0; i < 62; i++) {
            x.type('a');
        }
        Check.due("of a full one", x.clearText(), 60);
        Check.sentence("6: Empties the text");
        Check.due("length", x.count(16), 0);
        Check.due("type", x.type('b'), 1);
        x.newFile();
        Check.due("only what is new is read", x.readSegments(0), 1);
        Check.due("its character", x.charAt(0, 0, 0), 'b');
        Check.due("and no more", x.charAt(0, 0, 1), -5);
    }

    // ---- files and memory

    private static void promise7() {
        Check.sentence("7: Adds a file without segments, which is the last one in the order");
        MatchBureau x = new MatchBureau();
        Check.due("newFile()", x.newFile(), 0);
        Check.due("newFile()", x.newFile(), 1);
        x.swapFiles(0, 1);
        Check.due("newFile() after a swap", x.newFile(), 2);
        Check.due("its place", x.file(2, 3), 2);
        Check.due("fileAt(2)", x.fileAt(2), 2);
        Check.due("the others keep theirs", x.fileAt(0) * 10 + x.fileAt(1), 10);
        Check.due("segments", x.file(2, 1), 0);
        Check.sentence("7: FULL if there are 8");
        for (int i = 3; i < 8; i++) {
            Check.due("newFile()", x.newFile(), i);
        }
        Check.due("a ninth", x.newFile(), -3);
        x.undo();
        Check.due("the eighth after undo", x.newFile(), 7);
        Check.due("a ninth again", x.newFile(), -3);
    }

    private static void promise8() {
        promise8Behind();
        promise8States();
        promise8Full();
        promise8Order();
    }

    private static void promise8Behind() {
        Check.sentence("8: Adds the segments of the text, which stays, to a file, behind its others");
        MatchBureau x = new MatchBureau();
        x.newFile();
        Check.text(x, "a.b");
        Check.due("two", x.readSegments(0), 2);
        Check.due("the text stays", x.count(16), 3);
        Check.due("two more", x.readSegments(0), 4);
        Check.text(x, "c d");
        Check.due("one more", x.readSegments(0), 5);
        String characters = "ababc";
        for (int i = 0; i < 5; i++) {
            Check.due("segment " + i, x.charAt(0, i, 0), characters.charAt(i));
        }
        Check.sentence("8: UNKNOWN");
        Check.due("readSegments(1)", x.readSegments(1), -1);
        Check.due("readSegments(-1)", x.readSegments(-1), -1);
        Check.due("readSegments(8)", x.readSegments(8), -1);
        Check.due("readSegments(min)", x.readSegments(Integer.MIN_VALUE), -1);
        Check.due("readSegments(max)", x.readSegments(Integer.MAX_VALUE), -1);
    }

    private static void promise8States() {
        Check.sentence("8: NOT_POSSIBLE if the file is not open");
        MatchBureau x = TermsEdgesTest.fiveStates();
        for (int i = 1; i < 5; i++) {
            Check.due("readSegments(" + i + ")", x.readSegments(i), -4);
            Check.due("its segments", x.file(i, 1), 1);
        }
        Check.due("readSegments(0)", x.readSegments(0), 2);
    }

    private static void promise8Full() {
        Check.sentence("8: FULL if it would have more than 12");
        MatchBureau x = new MatchBureau();
        Check.fileWith(x, "a.b.c.d.e.f.g.h.i.j");
        Check.text(x, "k.l.m");
        Check.due("10 and 3", x.readSegments(0), -3);
        Check.due("none of them is added", x.file(0, 1), 10);
        Check.text(x, "k.l");
        Check.due("10 and 2", x.readSegments(0), 12);
        Check.due("12 and 2", x.readSegments(0), -3);
        Check.text(x, "m");
        Check.due("12 and 1", x.readSegments(0), -3);
        x.newFile();
        Check.text(x, TWELVE + ".m");
        Check.due("13", x.readSegments(1), -3);
        Check.text(x, TWELVE);
        Check.due("12", x.readSegments(1), 12);
    }

    private static void promise8Order() {
        MatchBureau x = Check.withPersons(1);
        x.newFile();
        x.newFile();
        x.withdraw(1);
        Check.sentence("8: UNKNOWN is ahead of the fault");
        Check.due("no file, empty text", x.readSegments(2), -1);
        Check.due("file -1, empty text", x.readSegments(-1), -1);
        Check.sentence("8: the fault is ahead of NOT_POSSIBLE");
        Check.due("a withdrawn file, empty text", x.readSegments(1), -100);
        Check.text(x, "ab!");
        Check.due("a withdrawn file, a fault", x.readSegments(1), -102);
        Check.sentence("8: the fault is ahead of FULL");
        Check.text(x, TWELVE);
        x.readSegments(0);
        x.type('.');
        Check.due("a full file, a fault", x.readSegments(0), -124);
        Check.sentence("8: NOT_POSSIBLE is ahead of FULL");
        x.take(0, 0);
        Check.text(x, "a");
        Check.due("a full file that is taken", x.readSegments(0), -4);
        Check.text(x, TWELVE + ".m");
        Check.due("a withdrawn file, thirteen segments", x.readSegments(1), -4);
    }

    private static void promise9() {
        promise9Alike();
        promise9Full();
        promise9Order();
    }

    private static void promise9Alike() {
        Check.sentence("9: NOT_POSSIBLE if there is an entry with a segment that is alike");
        MatchBureau x = Check.withPersons(1);
        Check.due("the first one", Check.entryWith(x, "a b", 5), 0);
        Check.due("the text stays", x.count(16), 3);
        Check.due("alike, the same target", x.remember(5), -4);
        Check.due("alike, another target", x.remember(6), -4);
        Check.due("the target stays", x.entry(0, 1), 5);
        Check.due("more words", Check.entryWith(x, "a b c", 5), 1);
        Check.due("fewer words", Check.entryWith(x, "a", 5), 2);
        Check.due("alike to the last", x.remember(5), -4);
        Check.fileWith(x, "z");
        x.take(0, 0);
        x.translate(0, 0, 5);
        Check.due("alike to a translated one", x.remember(5), -4);
        x.undo();
        Check.due("after undo", x.remember(5), 3);
        Check.sentence("9: BAD_VALUE (target, or the text has more than one segment)");
        Check.due("target 0", Check.entryWith(x, "y", 0), -2);
        Check.due("target 1000", x.remember(1000), -2);
        Check.due("target 999", x.remember(999), 4);
        Check.due("two segments", Check.entryWith(x, "u.v", 5), -2);
        Check.due("thirty segments", Check.entryWith(x, "u.v.u.v.u.v.u.v.u.v.u.v.u.v.u.v", 5), -2);
        Check.due("two alike ones", Check.entryWith(x, "u.u", 5), -2);
        Check.due("entries", x.count(3), 5);
    }

    /** A bureau with a person and 40 entries, Check.word(0) to Check.word(39), with the target 1. */
    private static MatchBureau fullMemory() {
        MatchBureau x = Check.withPersons(1);
        for (int i = 0; i < 40; i++) {
            Check.entryWith(x, Check.word(i), 1);
        }
        return x;
    }

    private static void promise9Full() {
        Check.sentence("9: FULL if there are 40");
        MatchBureau x = fullMemory();
        Check.due("entries", x.count(3), 40);
        Check.due("the forty-first", Check.entryWith(x, "new", 1), -3);
        x.undo();
        Check.due("the fortieth", x.remember(7), 39);
        Check.due("its target", x.entry(39, 1), 7);
        Check.due("its words", x.entry(39, 0), 1);
    }

    private static void promise9Order() {
        MatchBureau x = new MatchBureau();
        Check.sentence("9: the fault is ahead of BAD_VALUE");
        Check.due("empty text, target 0", x.remember(0), -100);
        Check.due("empty text, target 1000", x.remember(1000), -100);
        Check.due("two segments and a fault", Check.entryWith(x, "a.b.", 5), -104);
        Check.sentence("9: BAD_VALUE is ahead of NOT_POSSIBLE");
        Check.entryWith(x, "a", 5);
        Check.due("alike, target 0", x.remember(0), -2);
        Check.due("alike, target 1000", x.remember(1000), -2);
        Check.due("two segments, the first one alike", Check.entryWith(x, "a.b", 5), -2);
        MatchBureau y = fullMemory();
        Check.sentence("9: NOT_POSSIBLE is ahead of FULL");
        Check.due("alike to the first of 40", Check.entryWith(y, Check.word(0), 5), -4);
        Check.due("alike to the last of 40", Check.entryWith(y, Check.word(39), 5), -4);
        Check.sentence("9: the fault and BAD_VALUE are ahead of FULL");
        Check.due("a fault", Check.entryWith(y, "new ", 5), -104);
        Check.due("target 0", Check.entryWith(y, "new", 0), -2);
        Check.due("two segments", Check.entryWith(y, "new.newer", 5), -2);
    }

    private static void promise10() {
        Check.sentence("10: Returns the place of the first one then, from 0");
        MatchBureau x = new MatchBureau();
        for (int i = 0; i < 8; i++) {
            x.newFile();
        }
        Check.due("swapFiles(0, 7)", x.swapFiles(0, 7), 7);
        Check.due("swapFiles(0, 7) back", x.swapFiles(0, 7), 0);
        Check.due("swapFiles(7, 0)", x.swapFiles(7, 0), 0);
        Check.due("swapFiles(3, 4)", x.swapFiles(3, 4), 4);
        Check.due("swapFiles(3, 7)", x.swapFiles(3, 7), 0);
        int[] order = {3, 1, 2, 4, 7, 5, 6, 0};
        for (int place = 0; place < 8; place++) {
            Check.due("fileAt(" + place + ")", x.fileAt(place), order[place]);
        }
        Check.sentence("10: Exchanges the places of two files, whatever their states are");
        MatchBureau y = TermsEdgesTest.fiveStates();
        int[] places = {4, 0, 1, 2, -5};
        int[] placesOf4 = {0, 1, 2, 3, 3};
        for (int i = 0; i < 5; i++) {
            Check.due("swapFiles(" + i + ", 4)", y.swapFiles(i, 4), places[i]);
            Check.due("place of 4", y.file(4, 3), placesOf4[i]);
        }
        Check.sentence("10: UNKNOWN");
        Check.due("swapFiles(8, 0)", x.swapFiles(8, 0), -1);
        Check.due("swapFiles(0, 8)", x.swapFiles(0, 8), -1);
        Check.due("swapFiles(-1, 0)", x.swapFiles(-1, 0), -1);
        Check.due("swapFiles(0, -1)", x.swapFiles(0, -1), -1);
        Check.sentence("10: NONE if both are the same, and UNKNOWN ahead of it");
        Check.due("swapFiles(0, 0)", x.swapFiles(0, 0), -5);
        Check.due("swapFiles(7, 7)", x.swapFiles(7, 7), -5);
        Check.due("swapFiles(8, 8)", x.swapFiles(8, 8), -1);
        Check.due("swapFiles(-1, -1)", x.swapFiles(-1, -1), -1);
    }

    private static void promise11() {
        Check.sentence("11: NOT_POSSIBLE if it is not in hand");
        MatchBureau x = TermsEdgesTest.fiveStates();
        Check.due("delivered", x.withdraw(3), -4);
        Check.due("withdrawn", x.withdraw(4), -4);
        Check.sentence("11: Returns the number of its segments that have a target");
        Check.due("open", x.withdraw(0), 0);
        Check.due("taken", x.withdraw(1), 1);
        Check.due("in review", x.withdraw(2), 1);
        Check.due("without segments", x.withdraw(x.newFile()), 0);
        Check.fileWith(x, "a.z.a.y");
        x.take(6, 0);
        Check.due("two of four", x.withdraw(6), 2);
        Check.sentence("11: its segments keep their targets");
        Check.due("target of 0", x.segment(6, 0, 1), 3);
        Check.due("way of 0", x.segment(6, 0, 2), 3);
        Check.due("target of 1", x.segment(6, 1, 1), -5);
        Check.due("segments without a target", x.file(6, 8), 2);
        Check.sentence("11: UNKNOWN");
        Check.due("withdraw(7)", x.withdraw(7), -1);
        Check.due("withdraw(-1)", x.withdraw(-1), -1);
        Check.due("withdraw(max)", x.withdraw(Integer.MAX_VALUE), -1);
    }

    // ---- work

    private static void promise12() {
        promise12Price();
        promise12Match();
        promise12Wrong();
    }

    private static void promise12Price() {
        Check.sentence("12: Gives an open file to a person, for its price of now");
        MatchBureau x = Check.withPersons(7, 9);
        Check.entryWith(x, "a b", 3);
        Check.fileWith(x, "a b.a b.a c.x y z");
        int price = x.price(0, 1);
        Check.due("the price", price, 18 / 10 + 18 * 20 / 100 + 18 * 80 / 100 + 27);
        Check.due("take(0, 1)", x.take(0, 1), price);
        x.setShare(5, 0);
        Check.entryWith(x, "x y z", 3);
        Check.due("it stays", x.file(0, 6), price);
        Check.due("the price of now", x.price(0, 1), 18 / 10 + (18 + 27) * 20 / 100 + 18 * 80 / 100);
        x.setShare(1, 0);
        x.setShare(0, 0);
        Check.fileWith(x, "a b");
        Check.due("a price of 0", x.take(1, 0), 0);
        Check.due("it is told as 0", x.file(1, 6), 0);
        Check.due("the translator", x.file(1, 4), 0);
    }

    private static void promise12Match() {
        Check.sentence("12: Each of its segments without a target whose match is 100 gets the target of its entry");
        MatchBureau x = Check.withPersons(1);
        Check.entryWith(x, "a b c d e f g h", 3);
        Check.entryWith(x, "a", 4);
        Check.fileWith(x, "a b c d e f g.a b c d e f g h.b a.a.a b c d e f g i");
        Check.fileWith(x, "a");
        x.take(0, 0);
        int[] targets = {-5, 3, -5, 4, -5};
        for (int i = 0; i < 5; i++) {
            Check.due("target of " + i, x.segment(0, i, 1), targets[i]);
            Check.due("way of " + i, x.segment(0, i, 2), targets[i] < 0 ? 0 : 3);
        }
        Check.due("the other file's segment", x.segment(1, 0, 1), -5);
        Check.due("no more entries", x.count(3), 2);
        x.translate(0, 3, 9);
        x.take(1, 0);
        Check.due("of a disputed entry", x.segment(1, 0, 1), 4);
        x.settle(0, 1);
        Check.fileWith(x, "a");
        x.take(2, 0);
        Check.due("of a settled entry", x.segment(2, 0, 1), 9);
        Check.due("in the way 3", x.segment(2, 0, 2), 3);
    }

    private static void promise12Wrong() {
        MatchBureau x = TermsEdgesTest.fiveStates();
        Check.sentence("12: NOT_POSSIBLE if the file is not open, or has no segments");
        for (int i = 1; i < 5; i++) {
            Check.due("take(" + i + ", 0)", x.take(i, 0), -4);
        }
        x.newFile();
        Check.due("without segments", x.take(5, 0), -4);
        Check.due("its state", x.file(5, 0), 0);
        Check.sentence("12: UNKNOWN (file or person) is ahead of NOT_POSSIBLE");
        Check.due("take(6, 0)", x.take(6, 0), -1);
        Check.due("take(-1, 0)", x.take(-1, 0), -1);
        Check.due("take(0, 3)", x.take(0, 3), -1);
        Check.due("take(0, -1)", x.take(0, -1), -1);
        Check.due("take(1, 3)", x.take(1, 3), -1);
        Check.due("take(5, -1)", x.take(5, -1), -1);
        Check.due("the open one", x.take(0, 2), 6);
    }

    private static void promise13() {
        promise13Entries();
        promise13Disputes();
        promise13Count();
        promise13Unknown();
        promise13NotPossible();
        promise13NoneAndFull();
        promise13Order();
    }

    private static void promise13Entries() {
        Check.sentence("13: If there is no entry with a segment that is alike, there is one then, with this target");
        MatchBureau x = Check.withPersons(1);
        Check.entryWith(x, "b a", 1);
        Check.fileWith(x, "a b.a");
        x.take(0, 0);
        Check.due("translate", x.translate(0, 0, 7), 1);
        Check.due("entries", x.count(3), 2);
        Check.due("its target", x.entry(1, 1), 7);
        Check.due("its segment", x.distance(0, 0, 1), 0);
        Check.due("its segments in hand", x.entry(1, 4), 1);
        Check.due("the match then", x.segment(0, 0, 3), 100);
        x.translate(0, 0, 8);
        Check.due("no other entry", x.count(3), 2);
        Check.due("its target stays", x.entry(1, 1), 7);
    }

    private static void promise13Disputes() {
        Check.sentence("13: If there is one with another target, and no open dispute for it, there is a new one");
        MatchBureau x = Check.withPersons(1);
        Check.entryWith(x, "a", 5);
        Check.fileWith(x, "b.a");
        x.take(0, 0);
        x.translate(0, 0, 1);
        x.translate(0, 0, 2);
        Check.due("the second dispute", x.translate(0, 1, 6), 1);
        int[] told = {0, 5, 6, 0, -5};
        for (int what = 0; what <= 4; what++) {
            Check.due("dispute(1, " + what + ")", x.dispute(1, what), told[what]);
        }
        x.translate(0, 1, 7);
        x.translate(0, 1, 5);
        Check.due("none while it is open", x.count(4), 2);
        x.settle(1, 0);
        MatchBureau y = Check.withPersons(1);
        Check.entryWith(y, "a", 5);
        Check.fileWith(y, "a.a");
        y.take(0, 0);
        y.keep();
        Check.due("the entry's own target", y.translate(0, 0, 5), -5);
        Check.due("no dispute of it", y.count(4), 0);
        y.translate(0, 0, 6);
        y.settle(0, 1);
        Check.due("after a settlement the settled target", y.segment(0, 1, 1), 6);
        Check.due("no dispute of it", y.count(4), 1);
        y.restore();
        Check.due("a dispute after restore has the first number", y.translate(0, 1, 9), 1);
        Check.due("dispute(0, 2)", y.dispute(0, 2), 9);
    }

    private static void promise13Count() {
        Check.sentence("13: Returns how many segments get the target (this one counts)");
        MatchBureau x = Check.withPersons(1, 1);
        Check.fileWith(x, "a.a.a.a.a.a.a.a.a.a.a.a");
        for (int i = 1; i < 8; i++) {
            x.newFile();
            x.readSegments(i);
        }
        x.take(0, 0);
        Check.due("twelve", x.translate(0, 11, 5), 12);
        x.undo();
        for (int i = 1; i < 8; i++) {
            x.take(i, 1);
        }
        Check.due("all of 96", x.translate(7, 11, 5), 96);
        Check.due("one alone", x.translate(0, 0, 6), 1);
        Check.due("in the way 1", x.count(11), 2);
        Check.due("in the way 2", x.count(12), 94);
    }

    private static void promise13Unknown() {
        Check.sentence("13: UNKNOWN (file or segment)");
        MatchBureau x = Check.withPersons(1);
        Check.fileWith(x, "a.b");
        x.take(0, 0);
        int[] wrong = {-1, 2, 12, Integer.MIN_VALUE, Integer.MAX_VALUE};
        for (int w : wrong) {
            Check.due("translate(" + w + ", 0, 5)", x.translate(w, 0, 5), -1);
            Check.due("translate(0, " + w + ", 5)", x.translate(0, w, 5), -1);
        }
        x.newFile();
        Check.due("a file without segments", x.translate(1, 0, 5), -1);
        Check.due("the last segment", x.translate(0, 1, 5), 1);
    }

    private static void promise13NotPossible() {
        Check.sentence("13: NOT_POSSIBLE if the file is not taken");
        MatchBureau x = TermsEdgesTest.fiveStates();
        for (int i = 0; i < 5; i++) {
            Check.due("translate(" + i + ", 0, 4)", x.translate(i, 0, 4), i == 1 ? 1 : -4);
        }
        Check.sentence("13: or there is a settled entry with a segment that is alike and another target");
        x.settle(0, 0);
        Check.due("target then", x.segment(1, 0, 1), 3);
        Check.due("another target", x.translate(1, 0, 4), -4);
        Check.due("yet another one", x.translate(1, 0, 999), -4);
        x.withdraw(2);
        x.take(0, 2);
        x.review(0, 0);
        x.reject(0, 0);
        Check.due("without a target, another one", x.translate(0, 0, 4), -4);
        Check.due("without a target, the settled one", x.translate(0, 0, 3), 1);
        Check.due("no dispute of it", x.count(4), 1);
    }

    private static void promise13NoneAndFull() {
        Check.sentence("13: NONE if the segment has this target already");
        MatchBureau x = Check.withPersons(1);
        Check.entryWith(x, "a", 3);
        Check.fileWith(x, "a.b.b.c");
        x.take(0, 0);
        Check.due("from the memory", x.translate(0, 0, 3), -5);
        Check.due("its way stays", x.segment(0, 0, 2), 3);
        x.translate(0, 1, 4);
        Check.due("translated", x.translate(0, 1, 4), -5);
        Check.due("spread", x.translate(0, 2, 4), -5);
        Check.due("its way stays, too", x.segment(0, 2, 2), 2);
        x.translate(0, 2, 5);
        x.settle(0, 1);
        Check.due("settled", x.translate(0, 1, 5), -5);
        Check.due("no new state for these", x.undo(), 3);
        Check.sentence("13: FULL if there would be more than 40 entries");
        MatchBureau y = fullMemory();
        Check.fileWith(y, "new." + Check.word(39));
        y.take(0, 0);
        Check.due("a forty-first", y.translate(0, 0, 5), -3);
        Check.due("with an alike entry", y.translate(0, 1, 5), 1);
        Check.sentence("13: or 10 disputes");
        MatchBureau z = tenDisputes();
        Check.due("an eleventh", z.translate(0, 10, 2), -3);
        Check.due("its target stays", z.segment(0, 10, 1), 1);
        Check.due("an entry with an open dispute", z.translate(0, 9, 3), 1);
        Check.due("an entry without a dispute, its target", z.translate(0, 10, 1), -5);
        z.undo();
        z.undo();
        Check.due("the tenth after undo", z.translate(0, 10, 2), 1);
    }

    /** File 0 with TWELVE is taken; all have the target 1, and the first ten are disputed then. */
    private static MatchBureau tenDisputes() {
        MatchBureau x = Check.withPersons(1, 1);
        Check.fileWith(x, TWELVE);
        x.take(0, 0);
        for (int i = 0; i < 12; i++) {
            x.translate(0, i, 1);
        }
        for (int i = 0; i < 10; i++) {
            x.translate(0, i, 2);
        }
        return x;
    }

    private static void promise13Order() {
        MatchBureau x = TermsEdgesTest.fiveStates();
        Check.sentence("13: UNKNOWN is ahead of BAD_VALUE and NOT_POSSIBLE");
        Check.due("no file, target 0", x.translate(5, 0, 0), -1);
        Check.due("no segment, target 1000", x.translate(1, 1, 1000), -1);
        Check.due("no segment of an open file", x.translate(0, 1, 5), -1);
        Check.sentence("13: BAD_VALUE is ahead of NOT_POSSIBLE");
        Check.due("an open file, target 0", x.translate(0, 0, 0), -2);
        Check.due("a delivered file, target 1000", x.translate(3, 0, 1000), -2);
        x.translate(1, 0, 4);
        x.settle(0, 1);
        Check.due("a settled entry, target 0", x.translate(1, 0, 0), -2);
        Check.sentence("13: NOT_POSSIBLE is ahead of NONE");
        Check.due("in review, its own target", x.translate(2, 0, 4), -4);
        Check.due("delivered, its own target", x.translate(3, 0, 3), -4);
        Check.due("withdrawn, its own target", x.translate(4, 0, 3), -4);
        MatchBureau y = fullMemory();
        Check.fileWith(y, "new");
        Check.sentence("13: BAD_VALUE and NOT_POSSIBLE are ahead of FULL");
        Check.due("an open file, 40 entries", y.translate(0, 0, 5), -4);
        y.take(0, 0);
        Check.due("target 0, 40 entries", y.translate(0, 0, 0), -2);
        y.withdraw(0);
        Check.due("a withdrawn file, 40 entries", y.translate(0, 0, 5), -4);
        MatchBureau z = tenDisputes();
        z.settle(0, 0);
        Check.due("a settled entry, 10 disputes", z.translate(0, 0, 2), -4);
        Check.due("target 1000, 10 disputes", z.translate(0, 10, 1000), -2);
        z.withdraw(0);
        Check.due("a withdrawn file, 10 disputes", z.translate(0, 10, 2), -4);
    }

    private static void promise14() {
        promise14Count();
        promise14NotTaken();
        promise14Targets();
        promise14Disputes();
        promise14Person();
        promise14Order();
    }

    private static void promise14Count() {
        Check.sentence("14: Returns the number of its segments in the way 1");
        MatchBureau x = Check.withPersons(1, 1, 1);
        Check.entryWith(x, "a", 3);
        Check.fileWith(x, "a.b.b.c");
        x.take(0, 0);
        x.translate(0, 1, 4);
        x.translate(0, 3, 4);
        x.translate(0, 3, 5);
        x.settle(0, 0);
        Check.due("one in each of the ways 1 to 4", x.review(0, 1), 1);
        Check.due("the reviewer", x.file(0, 5), 1);
        Check.fileWith(x, "a.a");
        x.take(1, 0);
        Check.due("none", x.review(1, 2), 0);
        MatchBureau y = tenDisputes();
        for (int i = 0; i < 10; i++) {
            y.settle(i, 1);
        }
        Check.due("all of twelve", y.review(0, 1), 12);
    }

    private static void promise14NotTaken() {
        Check.sentence("14: NOT_POSSIBLE if it is not taken");
        MatchBureau x = TermsEdgesTest.fiveStates();
        for (int i = 0; i < 5; i++) {
            Check.due("review(" + i + ", 2)", x.review(i, 2), i == 1 ? 0 : -4);
        }
    }

    private static void promise14Targets() {
        Check.sentence("14: a segment has no target");
        for (int without = 0; without < 3; without++) {
            MatchBureau x = Check.withPersons(1, 1);
            Check.fileWith(x, "a.b.c");
            x.take(0, 0);
            for (int i = 0; i < 3; i++) {
                if (i != without) {
                    x.translate(0, i, 5);
                }
            }
            Check.due("without a target of " + without, x.review(0, 1), -4);
            x.translate(0, without, 5);
            Check.due("with it", x.review(0, 1), 3);
        }
    }

    private static void promise14Disputes() {
        Check.sentence("14: a segment of it is alike to that of an entry with an open dispute");
        for (int disputed = 0; disputed < 3; disputed++) {
            MatchBureau x = Check.withPersons(1, 1);
            Check.fileWith(x, "a.b.c");
            Check.fileWith(x, "a.b.c.d");
            x.take(0, 0);
            x.take(1, 1);
            for (int i = 0; i < 3; i++) {
                x.translate(0, i, 5);
            }
            x.translate(1, 3, 1);
            x.translate(1, 3, 2);
            x.translate(1, disputed, 6);
            Check.due("another entry of it is disputed", x.dispute(1, 0), disputed);
            Check.due("disputed from the other file", x.review(0, 1), -4);
            x.settle(1, 0);
            Check.due("an open dispute of another segment", x.review(0, 1), 3);
            Check.due("that of the other file", x.review(1, 0), -4);
            x.settle(0, 0);
            Check.due("none is open", x.review(1, 0), 0);
        }
    }

    private static void promise14Person() {
        Check.sentence("14: or this person may not review it");
        MatchBureau x = TermsEdgesTest.fiveStates();
        Check.due("its translator", x.review(1, 0), -4);
        Check.due("the reviewer of the last file", x.review(1, 1), -4);
        x.bar(0, 2, true);
        Check.due("a barred one", x.review(1, 2), -4);
        x.bar(0, 2, false);
        Check.due("one who may", x.review(1, 2), 0);
    }

    private static void promise14Order() {
        Check.sentence("14: UNKNOWN (file or person) is ahead of NOT_POSSIBLE");
        MatchBureau x = TermsEdgesTest.fiveStates();
        int[] wrong = {-1, 5, 6, 8, Integer.MIN_VALUE, Integer.MAX_VALUE};
        for (int w : wrong) {
            Check.due("review(" + w + ", 2)", x.review(w, 2), -1);
            Check.due("review(1, " + w + ")", x.review(1, w), -1);
            Check.due("review(3, " + w + ")", x.review(3, w), -1);
        }
        Check.due("review(0, 3)", x.review(0, 3), -1);
    }

    private static void promise15() {
        Check.sentence("15: it has no target then (in the way 0), and the file is taken again, by its translator");
        MatchBureau x = TermsEdgesTest.fiveStates();
        int price = x.file(2, 6);
        x.setShare(0, 100);
        Check.due("reject(2, 0)", x.reject(2, 0), 1);
        int[] file = {1, 1, 1, 2, 0, -5, price, price, 1, 1};
        for (int what = 0; what <= 9; what++) {
            Check.due("file(2, " + what + ")", x.file(2, what), file[what]);
        }
        Check.due("target", x.segment(2, 0, 1), -5);
        Check.due("way", x.segment(2, 0, 2), 0);
        Check.due("no file of the reviewer", x.person(1, 3), 0);
        Check.due("two files of the translator", x.person(0, 2), 2);
        Check.sentence("15: Returns how often a segment of this file was rejected so far");
        for (int times = 2; times <= 5; times++) {
            x.translate(2, 0, 3);
            x.review(2, times % 2 == 0 ? 2 : 1);
            Check.due("reject " + times, x.reject(2, 0), times);
        }
        x.review(1, 2);
        Check.due("of another file", x.reject(1, 0), 1);
        Check.due("file(2, 9)", x.file(2, 9), 5);
        Check.due("undo()", x.undo(), 3);
        Check.due("again after undo", x.reject(1, 0), 1);
        promise15OneSegment();
        promise15Wrong();
    }

    private static void promise15OneSegment() {
        Check.sentence("15: Rejects a segment of a file in review");
        MatchBureau x = Check.withPersons(1, 1);
        Check.entryWith(x, "a", 3);
        Check.fileWith(x, "a.b.a.a");
        x.take(0, 0);
        x.translate(0, 1, 5);
        x.review(0, 1);
        Check.due("reject(0, 2)", x.reject(0, 2), 1);
        int[] targets = {3, 5, -5, 3};
        int[] ways = {3, 1, 0, 3};
        for (int i = 0; i < 4; i++) {
            Check.due("target of " + i, x.segment(0, i, 1), targets[i]);
            Check.due("way of " + i, x.segment(0, i, 2), ways[i]);
        }
        Check.due("segments without a target", x.file(0, 8), 1);
        Check.due("the entry stays", x.entry(0, 1), 3);
        Check.due("another one is not possible then", x.reject(0, 0), -4);
    }

    private static void promise15Wrong() {
        Check.sentence("15: NOT_POSSIBLE if the file is not in review");
        MatchBureau x = TermsEdgesTest.fiveStates();
        for (int i = 0; i < 5; i++) {
            Check.due("reject(" + i + ", 0)", x.reject(i, 0), i == 2 ? 1 : -4);
        }
        Check.due("rejected once", x.reject(2, 0), -4);
        Check.sentence("15: UNKNOWN (file or segment) is ahead of NOT_POSSIBLE");
        int[] wrong = {-1, 12, 100, Integer.MIN_VALUE, Integer.MAX_VALUE};
        for (int w : wrong) {
            Check.due("reject(" + w + ", 0)", x.reject(w, 0), -1);
            Check.due("reject(2, " + w + ")", x.reject(2, w), -1);
        }
        Check.due("reject(5, 0)", x.reject(5, 0), -1);
        Check.due("reject(2, 1)", x.reject(2, 1), -1);
        Check.due("reject(0, 1)", x.reject(0, 1), -1);
    }

    private static void promise16() {
        Check.sentence("16: its price is paid to its translator, and 2 pence for each of its words to its reviewer");
        MatchBureau x = Check.withPersons(50, 1);
        Check.fileWith(x, "a b c d e f g h.b");
        x.take(0, 0);
        x.translate(0, 0, 5);
        x.translate(0, 1, 5);
        x.review(0, 1);
        Check.due("nothing is paid yet", x.count(8) + x.person(0, 6) + x.person(1, 6), 0);
        Check.due("deliver(0)", x.deliver(0), 450 + 18);
        Check.due("the translator's", x.person(0, 6), 450);
        Check.due("the reviewer's", x.person(1, 6), 18);
        Check.due("in all", x.count(8), 468);
        x.setShare(0, 0);
        x.setShare(1, 0);
        Check.fileWith(x, "b.b");
        x.take(1, 1);
        x.review(1, 0);
        Check.due("for a price of 0", x.deliver(1), 4);
        Check.due("paid to the first, as both", x.person(0, 6), 454);
        Check.due("paid to the second", x.person(1, 6), 18);
        promise16Wrong();
    }

    private static void promise16Wrong() {
        Check.sentence("16: NOT_POSSIBLE if it is not in review");
        MatchBureau x = TermsEdgesTest.fiveStates();
        int paid = x.count(8);
        for (int i = 0; i < 5; i++) {
            Check.due("deliver(" + i + ")", x.deliver(i), i == 2 ? x.file(2, 6) + 2 : -4);
        }
        Check.due("delivered once", x.deliver(2), -4);
        Check.due("paid once", x.count(8), paid + x.file(2, 7));
        Check.sentence("16: UNKNOWN");
        Check.due("deliver(5)", x.deliver(5), -1);
        Check.due("deliver(-1)", x.deliver(-1), -1);
        Check.due("deliver(max)", x.deliver(Integer.MAX_VALUE), -1);
    }

    private static void promise17() {
        promise17Chosen();
        promise17Segments();
        promise17Wrong();
    }

    private static void promise17Chosen() {
        Check.sentence("17: which: 0 for the target that the entry had, 1 for the other one");
        for (int which = 0; which <= 1; which++) {
            MatchBureau x = TermsEdgesTest.fiveStates();
            x.translate(1, 0, 4);
            Check.due("settle(0, " + which + ")", x.settle(0, which), 1);
            Check.due("target of the entry", x.entry(0, 1), 3 + which);
            Check.due("it is settled", x.entry(0, 2), 1);
            Check.due("the chosen one", x.dispute(0, 4), 3 + which);
            Check.due("the taken file's", x.segment(1, 0, 1), 3 + which);
            Check.due("the reviewed file's", x.segment(2, 0, 1), 3 + which);
            Check.due("way of the taken file's", x.segment(1, 0, 2), which == 0 ? 4 : 1);
            Check.due("way of the reviewed file's", x.segment(2, 0, 2), which == 0 ? 3 : 4);
        }
    }

    private static void promise17Segments() {
        Check.sentence("17: each segment of a file in hand that is alike and has another target gets this target");
        MatchBureau x = TermsEdgesTest.fiveStates();
        x.translate(1, 0, 4);
        Check.fileWith(x, "a.z.a.a.aa");
        x.take(5, 2);
        x.translate(5, 1, 3);
        x.translate(5, 2, 4);
        x.translate(5, 3, 7);
        x.translate(5, 4, 3);
        Check.due("settle(0, 1)", x.settle(0, 1), 3);
        Check.due("delivered", x.segment(3, 0, 1), 3);
        Check.due("withdrawn", x.segment(4, 0, 1), 3);
        int[] targets = {4, 3, 4, 4, 3};
        int[] ways = {4, 1, 1, 4, 1};
        for (int i = 0; i < 5; i++) {
            Check.due("target of " + i, x.segment(5, i, 1), targets[i]);
            Check.due("way of " + i, x.segment(5, i, 2), ways[i]);
        }
        Check.sentence("17: (one without a target stays so)");
        Check.due("an open file's", x.segment(0, 0, 1), -5);
        Check.due("its way", x.segment(0, 0, 2), 0);
        MatchBureau y = TermsEdgesTest.fiveStates();
        y.translate(1, 0, 4);
        y.reject(2, 0);
        Check.due("settle with a rejected one", y.settle(0, 0), 1);
        Check.due("the rejected one", y.segment(2, 0, 1), -5);
        Check.sentence("17: Returns how many segments get another target");
        MatchBureau z = TermsEdgesTest.fiveStates();
        z.translate(1, 0, 4);
        z.translate(1, 0, 3);
        Check.due("none", z.settle(0, 0), 0);
        Check.due("way of one that had it", z.segment(1, 0, 2), 1);
    }

    private static void promise17Wrong() {
        MatchBureau x = TermsEdgesTest.fiveStates();
        Check.sentence("17: UNKNOWN is ahead of BAD_VALUE");
        Check.due("settle(0, 0) without disputes", x.settle(0, 0), -1);
        Check.due("settle(0, 2) without disputes", x.settle(0, 2), -1);
        x.translate(1, 0, 4);
        Check.due("settle(-1, 0)", x.settle(-1, 0), -1);
        Check.due("settle(1, 1)", x.settle(1, 1), -1);
        Check.due("settle(1, -1)", x.settle(1, -1), -1);
        Check.due("settle(10, 0)", x.settle(10, 0), -1);
        Check.sentence("17: BAD_VALUE");
        Check.due("settle(0, -1)", x.settle(0, -1), -2);
        Check.due("settle(0, 2)", x.settle(0, 2), -2);
        Check.due("settle(0, max)", x.settle(0, Integer.MAX_VALUE), -2);
        Check.sentence("17: NOT_POSSIBLE if it is settled already");
        x.settle(0, 1);
        Check.due("for the same", x.settle(0, 1), -4);
        Check.due("for the other", x.settle(0, 0), -4);
        Check.sentence("17: BAD_VALUE is ahead of NOT_POSSIBLE");
        Check.due("settle(0, 2) of a settled one", x.settle(0, 2), -2);
        Check.due("settle(0, -1) of a settled one", x.settle(0, -1), -2);
    }

    // ---- history

    private static void promise18() {
        Check.sentence("18: Returns the number of states that are left");
        MatchBureau x = new MatchBureau();
        for (int i = 0; i < 7; i++) {
            x.newFile();
        }
        for (int left = 3; left >= 0; left--) {
            Check.due("undo()", x.undo(), left);
            Check.due("count(15)", x.count(15), left);
            Check.due("files", x.count(0), 3 + left);
        }
        Check.sentence("18: NONE if the history is empty");
        Check.due("undo()", x.undo(), -5);
        Check.due("files", x.count(0), 3);
        Check.due("undo() of a new one", new MatchBureau().undo(), -5);
        x.setShare(0, 1);
        Check.due("undo() of one act", x.undo(), 0);
        Check.due("undo() then", x.undo(), -5);
    }

    private static void promise19() {
        Check.sentence("19: Returns the number of files");
        MatchBureau x = new MatchBureau();
        Check.due("keep() of nothing", x.keep(), 0);
        for (int i = 1; i <= 8; i++) {
            x.newFile();
            Check.due("keep() of " + i, x.keep(), i);
        }
        x.withdraw(0);
        Check.due("a withdrawn file counts", x.keep(), 8);
        Check.sentence("19: Takes a snapshot of the state, in place of the one that was");
        x.undo();
        Check.due("restore()", x.restore(), 8);
        Check.due("the later one", x.file(0, 0), 4);
        Check.due("keep() is no act", x.undo(), 3);
        Check.due("the state before restore()", x.file(0, 0), 0);
    }

    private static void promise20() {
        Check.sentence("20: NONE if there is no snapshot");
        MatchBureau x = new MatchBureau();
        Check.due("restore()", x.restore(), -5);
        Check.due("no state of it", x.count(15), 0);
        Check.sentence("20: Returns the number of files then");
        x.keep();
        x.newFile();
        Check.due("of an empty snapshot", x.restore(), 0);
        Check.due("files", x.count(0), 0);
        for (int i = 0; i < 8; i++) {
            x.newFile();
        }
        x.keep();
        x.undo();
        Check.due("of eight", x.restore(), 8);
        Check.sentence("20: Restores the state of the snapshot, which stays");
        x.withdraw(7);
        Check.due("once more", x.restore(), 8);
        Check.due("the file's state", x.file(7, 0), 0);
        x.withdraw(6);
        Check.due("and again", x.restore(), 8);
        Check.due("that file's state", x.file(6, 0), 0);
        Check.sentence("20: This is an act");
        Check.due("undo() of restore()", x.undo(), 3);
        Check.due("the file is withdrawn again", x.file(6, 0), 4);
        x.restore();
        Check.due("states after restore() of the same", x.restore() + x.count(15), 12);
        Check.due("undo() of it", x.undo(), 3);
    }

    /** What comes into being after undo() or restore() has nothing of what was there before under its number. */
    private static void slotsThatAreUsedAgain() {
        Check.sentence("7, 8, 9, 13: what is new has nothing of what was undone");
        MatchBureau x = new MatchBureau();
        x.keep();
        String[] texts = {"a.b c", "d e f"};
        for (int round = 0; round < 2; round++) {
            x.addPerson(10 + round);
            x.addPerson(20);
            int[] person = {10 + round, 0, 0, 0, 0, 0, 0, -5};
            for (int what = 0; what <= 7; what++) {
                Check.due("person(0, " + what + ") in round " + round, x.person(0, what), person[what]);
            }
            x.bar(0, 1, true);
            x.bar(0, 1, false);
            int file = Check.fileWith(x, texts[round]);
            int[] told = {0, 2 - round, 3, 0, -5, -5, -5, 0, 2 - round, 0};
            for (int what = 0; what <= 9; what++) {
                Check.due("file(0, " + what + ") in round " + round, x.file(file, what), told[what]);
            }
            Check.due("first character", x.charAt(0, 0, 0), round == 0 ? 'a' : 'd');
            Check.due("no target", x.segment(0, 0, 1), -5);
            Check.due("no way", x.segment(0, 0, 2), 0);
            x.take(0, 0);
            x.translate(0, 0, 30 + round);
            Check.due("target of the entry", x.entry(0, 1), 30 + round);
            Check.due("words of the entry", x.entry(0, 0), 1 + 2 * round);
            Check.due("not settled", x.entry(0, 2), 0);
            x.translate(0, 0, 40 + round);
            int[] dispute = {0, 30 + round, 40 + round, 0, -5};
            for (int what = 0; what <= 4; what++) {
                Check.due("dispute(0, " + what + ") in round " + round, x.dispute(0, what), dispute[what]);
            }
            x.settle(0, 1);
            x.translate(0, 1, 5);
            Check.due("in review", x.review(0, 1) >= 0 ? 1 : 0, 1);
            x.reject(0, 0);
            x.bar(0, 1, true);
            x.restore();
        }
    }
}
