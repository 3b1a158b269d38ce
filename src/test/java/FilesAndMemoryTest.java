/** Promises 7 to 11: files and memory. */
public final class FilesAndMemoryTest {
    public static void main(String[] args) {
        promise7NewFile();
        promise8ReadSegments();
        promise8ReadSegmentsOrderOfChecks();
        promise9Remember();
        promise9RememberOrderOfChecks();
        promise9RememberFortyEntries();
        promise10SwapFiles();
        promise11Withdraw();
        promise11WithdrawLeavesHands();
        Check.finish("FilesAndMemoryTest");
    }

    private static void promise7NewFile() {
        MatchBureau x = new MatchBureau();
        Check.due("newFile()", x.newFile(), 0);
        Check.due("newFile() is an act", x.count(15), 1);
        Check.due("newFile()", x.newFile(), 1);
        x.swapFiles(0, 1);
        Check.due("newFile()", x.newFile(), 2);
        Check.due("place of the last", x.file(2, 3), 2);
        Check.due("it is open", x.file(2, 0), 0);
        Check.due("it is without segments", x.file(2, 1), 0);
        for (int i = 3; i < 8; i++) {
            Check.due("newFile()", x.newFile(), i);
        }
        Check.due("a ninth", x.newFile(), -3);
        x.withdraw(7);
        Check.due("a ninth after a withdrawal", x.newFile(), -3);
        x.undo();
        x.undo();
        Check.due("a refused file is no act", x.count(0), 7);
        Check.due("the eighth again", x.newFile(), 7);
        Check.due("the eighth is open", x.file(7, 0), 0);
    }

    private static void promise8ReadSegments() {
        MatchBureau x = new MatchBureau();
        x.newFile();
        x.newFile();
        Check.text(x, "a.b c");
        Check.due("readSegments(0)", x.readSegments(0), 2);
        Check.due("it is an act", x.count(15), 3);
        Check.due("readSegments(0) again", x.readSegments(0), 4);
        Check.text(x, "ddd.e.f.g.h.i.j.k");
        Check.due("up to 12", x.readSegments(0), 12);
        Check.due("behind its others", x.charAt(0, 4, 2), 'd');
        Check.due("at the end", x.charAt(0, 11, 0), 'k');
        Check.due("the first stays", x.charAt(0, 0, 0), 'a');
        Check.text(x, "z");
        Check.due("a thirteenth", x.readSegments(0), -3);
        Check.due("segments then", x.file(0, 1), 12);
        Check.due("no targets", x.file(0, 8), 12);
        Check.due("the other file has none", x.file(1, 1), 0);
        Check.text(x, "a.b.c.d.e.f.g.h.i.j.k.l.m");
        Check.due("thirteen at once", x.readSegments(1), -3);
        Check.text(x, "a.b.c.d.e.f.g.h.i.j.k.l");
        Check.due("twelve at once", x.readSegments(1), 12);
    }

    private static void promise8ReadSegmentsOrderOfChecks() {
        MatchBureau x = new MatchBureau();
        x.addPerson(1);
        Check.due("no file, empty text", x.readSegments(0), -1);
        Check.due("file -1", x.readSegments(-1), -1);
        Check.due("file max", x.readSegments(Integer.MAX_VALUE), -1);
        Check.fileWith(x, "a.b.c.d.e.f.g.h.i.j.k.l");
        x.take(0, 0);
        Check.due("a taken file that would be too full", x.readSegments(0), -4);
        Check.text(x, "a..");
        Check.due("a fault and a taken file", x.readSegments(0), -102);
        Check.due("a fault and no file", x.readSegments(1), -1);
        x.newFile();
        x.withdraw(1);
        Check.text(x, "a");
        Check.due("a withdrawn file", x.readSegments(1), -4);
        Check.due("segments of it", x.file(1, 1), 0);
    }

    private static void promise9Remember() {
        MatchBureau x = new MatchBureau();
        Check.due("remember 1", Check.entryWith(x, "a b", 1), 0);
        Check.due("it is an act", x.count(15), 1);
        Check.due("remember 999", Check.entryWith(x, "a c", 999), 1);
        Check.due("the text stays", x.count(16), 3);
        Check.due("target of 0", x.entry(0, 1), 1);
        Check.due("target of 1", x.entry(1, 1), 999);
        Check.due("not settled", x.entry(0, 2), 0);
        Check.due("words of 0", x.entry(0, 0), 2);
        Check.due("alike", Check.entryWith(x, "a b", 7), -4);
        Check.due("alike with the same target", Check.entryWith(x, "a b", 1), -4);
        Check.due("another order", Check.entryWith(x, "b a", 7), 2);
        Check.due("the start of another", Check.entryWith(x, "a", 7), 3);
        Check.due("words put together", Check.entryWith(x, "ab", 7), 4);
        Check.due("entries", x.count(3), 5);
        x.undo();
        Check.due("undone", x.count(3), 4);
        Check.due("another one then", Check.entryWith(x, "q r s", 8), 4);
        Check.due("words of it", x.entry(4, 0), 3);
    }

    private static void promise9RememberOrderOfChecks() {
        MatchBureau x = new MatchBureau();
        Check.due("empty text, wrong target", x.remember(0), -100);
        Check.text(x, "a.b,");
        Check.due("fault, wrong target, two segments", x.remember(1000), -103);
        Check.text(x, "a.b");
        Check.due("two segments", x.remember(5), -2);
        Check.text(x, "a");
        Check.due("remember(0)", x.remember(0), -2);
        Check.due("remember(1000)", x.remember(1000), -2);
        Check.due("remember(-1)", x.remember(-1), -2);
        Check.due("remember(min)", x.remember(Integer.MIN_VALUE), -2);
        x.remember(5);
        Check.due("alike and a wrong target", x.remember(0), -2);
        Check.due("only one was an act", x.count(15), 1);
    }

    private static void promise9RememberFortyEntries() {
        MatchBureau x = new MatchBureau();
        for (int i = 0; i < 40; i++) {
            Check.due("entry " + i, Check.entryWith(x, letters(i), i + 1), i);
        }
        Check.due("a forty-first", Check.entryWith(x, "new", 5), -3);
        Check.due("an alike one", Check.entryWith(x, letters(39), 5), -4);
        Check.due("a wrong target", Check.entryWith(x, "new", 0), -2);
        Check.due("entries", x.count(3), 40);
        Check.due("the last target", x.entry(39, 1), 40);
        x.undo();
        Check.due("entries after undo", x.count(3), 39);
        Check.due("the fortieth", Check.entryWith(x, "new", 5), 39);
    }

    /** A word of two letters that is another one for each number below 676. */
    private static String letters(int number) {
        return "" + (char) ('a' + number / 26) + (char) ('a' + number % 26);
    }

    private static void promise10SwapFiles() {
        MatchBureau x = new MatchBureau();
        for (int i = 0; i < 4; i++) {
            x.newFile();
        }
        Check.due("swapFiles(0, 3)", x.swapFiles(0, 3), 3);
        Check.due("it is an act: undo", x.undo(), 3);
        Check.due("place after undo", x.file(0, 3), 0);
        Check.due("swapFiles(0, 3) again", x.swapFiles(0, 3), 3);
        Check.due("swapFiles(3, 1)", x.swapFiles(3, 1), 1);
        int[] order = {1, 3, 2, 0};
        for (int place = 0; place < 4; place++) {
            Check.due("fileAt(" + place + ")", x.fileAt(place), order[place]);
            Check.due("its place", x.file(order[place], 3), place);
        }
        int states = x.count(15);
        x.undo();
        Check.due("swapFiles(2, 2)", x.swapFiles(2, 2), -5);
        Check.due("swapFiles(4, 4)", x.swapFiles(4, 4), -1);
        Check.due("swapFiles(0, 4)", x.swapFiles(0, 4), -1);
        Check.due("swapFiles(4, 0)", x.swapFiles(4, 0), -1);
        Check.due("swapFiles(-1, 0)", x.swapFiles(-1, 0), -1);
        Check.due("swapFiles(0, min)", x.swapFiles(0, Integer.MIN_VALUE), -1);
        Check.due("none of these is an act", x.count(15), states - 1);
        x.withdraw(1);
        Check.due("a withdrawn file has a place, too", x.swapFiles(1, 0), 3);
        Check.due("and the other one", x.fileAt(1), 0);
    }

    private static void promise11Withdraw() {
        MatchBureau x = new MatchBureau();
        x.addPerson(4);
        Check.entryWith(x, "a", 9);
        Check.fileWith(x, "a.b.a");
        x.take(0, 0);
        Check.due("withdraw(1)", x.withdraw(1), -1);
        Check.due("withdraw(-1)", x.withdraw(-1), -1);
        Check.due("withdraw(0)", x.withdraw(0), 2);
        Check.due("withdraw(0) again", x.withdraw(0), -4);
        Check.due("state", x.file(0, 0), 4);
        Check.due("target 0 is kept", x.segment(0, 0, 1), 9);
        Check.due("way 0 is kept", x.segment(0, 0, 2), 3);
        Check.due("target 1", x.segment(0, 1, 1), -5);
        Check.due("price", x.file(0, 6), -5);
        Check.due("cost", x.file(0, 7), 0);
        Check.due("files of the translator", x.person(0, 2), 0);
        Check.due("the translator is not told to go", x.file(0, 4), 0);
        Check.due("undo", x.undo(), 3);
        Check.due("state after undo", x.file(0, 0), 1);
        Check.due("price after undo", x.file(0, 6), 4);
        Check.due("an open one", x.withdraw(Check.fileWith(x, "c")), 0);
    }

    private static void promise11WithdrawLeavesHands() {
        MatchBureau x = new MatchBureau();
        x.addPerson(4);
        x.addPerson(4);
        Check.entryWith(x, "a", 9);
        Check.fileWith(x, "a");
        Check.fileWith(x, "a");
        x.take(0, 0);
        x.review(0, 1);
        Check.due("withdraw from review", x.withdraw(0), 1);
        Check.due("no file of the reviewer", x.person(1, 3), 0);
        Check.due("the last reviewer stays", x.person(0, 7), 1);
        Check.due("no repeat of it any more", x.segment(1, 0, 5), 1);
        x.take(1, 0);
        x.review(1, 1);
        Check.due("not to the same reviewer", x.file(1, 0), 1);
        x.addPerson(4);
        x.review(1, 2);
        x.deliver(1);
        Check.due("withdraw a delivered one", x.withdraw(1), -4);
        Check.due("it stays delivered", x.file(1, 0), 3);
    }
}
