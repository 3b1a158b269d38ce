/** Promises 18 to 20: undo, keep and restore. */
public final class HistoryTest {
    public static void main(String[] args) {
        promise18Undo();
        promise18FourStates();
        promise18UndoRestoresEverything();
        promise18OnlyActsAreRecorded();
        promise18EachActIsUndoneAlone();
        promise18EachActOfWorkIsUndoneAlone();
        promise19Keep();
        promise20Restore();
        promise20RestoreIsAnAct();
        promise20NewThingsAreNew();
        promise20OtherThingsThanThoseOfNow();
        Check.finish("HistoryTest");
    }

    private static void promise18Undo() {
        MatchBureau x = new MatchBureau();
        Check.due("undo() of nothing", x.undo(), -5);
        x.addPerson(1);
        Check.due("undo()", x.undo(), 0);
        Check.due("persons", x.count(2), 0);
        Check.due("undo() again", x.undo(), -5);
        x.addPerson(2);
        x.addPerson(3);
        Check.due("undo() of two", x.undo(), 1);
        Check.due("rate of the other", x.person(0, 0), 2);
        Check.due("undo() records nothing", x.undo(), 0);
        Check.due("none left", x.count(2), 0);
    }

    private static void promise18FourStates() {
        MatchBureau x = new MatchBureau();
        for (int i = 1; i <= 6; i++) {
            x.addPerson(i);
            Check.due("states", x.count(15), Math.min(i, 4));
        }
        for (int left = 3; left >= 0; left--) {
            Check.due("undo()", x.undo(), left);
            Check.due("persons then", x.count(2), left + 2);
        }
        Check.due("undo() then", x.undo(), -5);
        Check.due("persons at last", x.count(2), 2);
        x.addPerson(30);
        Check.due("rate of the new one", x.person(2, 0), 30);
        Check.due("undo() of it", x.undo(), 0);
        for (int i = 0; i < 9; i++) {
            x.setShare(0, i);
        }
        x.undo();
        x.undo();
        x.setShare(0, 50);
        x.undo();
        Check.due("share", x.setShare(0, 77), 6);
        Check.due("states at last", x.count(15), 3);
    }

    private static void promise18UndoRestoresEverything() {
        MatchBureau x = new MatchBureau();
        x.addPerson(10);
        x.addPerson(20);
        Check.entryWith(x, "a", 3);
        Check.fileWith(x, "a.b");
        x.newFile();
        x.take(0, 0);
        x.bar(0, 1, true);
        x.swapFiles(0, 1);
        x.setShare(5, 1);
        x.translate(0, 0, 9);
        Check.due("undo translate", x.undo(), 3);
        Check.due("target", x.segment(0, 0, 1) * 10 + x.segment(0, 0, 2), 33);
        Check.due("disputes", x.count(4), 0);
        Check.due("undo setShare", x.undo(), 2);
        Check.due("share", x.price(0, 0), 12);
        Check.due("undo swapFiles", x.undo(), 1);
        Check.due("order", x.fileAt(0) * 10 + x.fileAt(1), 1);
        Check.due("undo bar", x.undo(), 0);
        Check.due("bars", x.person(0, 1) + x.person(1, 1), 0);
        Check.due("the file is taken still", x.file(0, 0), 1);
    }

    private static void promise18OnlyActsAreRecorded() {
        MatchBureau x = new MatchBureau();
        x.type('a');
        x.clearText();
        x.keep();
        x.addPerson(99);
        x.setShare(0, 10);
        x.readSegments(0);
        x.remember(5);
        x.newFile();
        x.readSegments(0);
        x.swapFiles(0, 0);
        x.take(0, 0);
        x.deliver(0);
        Check.due("states", x.count(15), 1);
        x.withdraw(0);
        x.withdraw(0);
        Check.due("states then", x.count(15), 2);
    }

    private static void promise19Keep() {
        MatchBureau x = new MatchBureau();
        Check.due("keep() of nothing", x.keep(), 0);
        x.newFile();
        Check.due("restore() of nothing", x.restore(), 0);
        Check.due("files", x.count(0), 0);
        x.newFile();
        x.newFile();
        Check.due("keep()", x.keep(), 2);
        Check.due("keep() again", x.keep(), 2);
        Check.due("keep is no act", x.count(15), 4);
        x.withdraw(0);
        x.undo();
        x.undo();
        Check.due("undo leaves the snapshot", x.restore(), 2);
        x.addPerson(5);
        x.keep();
        x.undo();
        x.restore();
        Check.due("in place of the one that was", x.count(2), 1);
    }

    private static void promise20Restore() {
        MatchBureau x = new MatchBureau();
        Check.due("restore() without a snapshot", x.restore(), -5);
        Check.due("that is no act", x.count(15), 0);
        x.addPerson(10);
        Check.entryWith(x, "a", 3);
        Check.fileWith(x, "a.b");
        x.keep();
        x.take(0, 0);
        x.translate(0, 1, 4);
        x.newFile();
        x.swapFiles(0, 1);
        x.addPerson(11);
        x.setShare(3, 5);
        x.type('c');
        Check.due("restore()", x.restore(), 1);
        Check.due("state", x.file(0, 0), 0);
        Check.due("persons", x.count(2), 1);
        Check.due("entries", x.count(3), 1);
        Check.due("targets", x.file(0, 8), 2);
        Check.due("share", x.setShare(3, 60), -5);
        Check.due("place", x.file(0, 3), 0);
        Check.due("the text stays", x.count(16), 4);
        x.newFile();
        Check.due("the snapshot stays", x.restore(), 1);
        x.withdraw(0);
        Check.due("and stays", x.restore(), 1);
        Check.due("as it was", x.file(0, 0), 0);
    }

    private static void promise20RestoreIsAnAct() {
        MatchBureau x = new MatchBureau();
        x.keep();
        x.newFile();
        x.newFile();
        Check.due("restore()", x.restore(), 0);
        Check.due("states", x.count(15), 3);
        Check.due("undo()", x.undo(), 2);
        Check.due("files", x.count(0), 2);
        x.restore();
        Check.due("restore() of the same", x.restore(), 0);
        Check.due("states then", x.count(15), 4);
    }

    /** The act before it is a share of the band 4, which must be there still. */
    private static void undoneAlone(String act, MatchBureau x, int answer, int got) {
        Check.due(act, got, answer);
        Check.due("undo of " + act, x.undo() >= 0 ? 1 : 0, 1);
        Check.due("the act before " + act, x.setShare(4, 7), -5);
        x.setShare(4, 8);
        x.setShare(4, 7);
    }

    private static void promise18EachActIsUndoneAlone() {
        MatchBureau x = new MatchBureau();
        x.newFile();
        x.newFile();
        x.setShare(4, 7);
        undoneAlone("addPerson", x, 0, x.addPerson(5));
        Check.due("persons", x.count(2), 0);
        undoneAlone("setShare", x, 100, x.setShare(5, 1));
        undoneAlone("newFile", x, 2, x.newFile());
        Check.due("files", x.count(0), 2);
        Check.text(x, "a");
        undoneAlone("readSegments", x, 1, x.readSegments(0));
        Check.due("segments", x.file(0, 1), 0);
        undoneAlone("remember", x, 0, x.remember(3));
        Check.due("entries", x.count(3), 0);
        undoneAlone("swapFiles", x, 1, x.swapFiles(0, 1));
        Check.due("place", x.file(0, 3), 0);
        undoneAlone("withdraw", x, 0, x.withdraw(0));
        Check.due("state", x.file(0, 0), 0);
        x.addPerson(1);
        x.addPerson(1);
        x.setShare(4, 8);
        x.setShare(4, 7);
        undoneAlone("bar", x, 1, x.bar(0, 1, true));
        Check.due("bars", x.person(0, 1) + x.person(1, 1), 0);
        x.keep();
        x.newFile();
        x.setShare(4, 8);
        x.setShare(4, 7);
        undoneAlone("restore", x, 2, x.restore());
        Check.due("files then", x.count(0), 3);
    }

    private static void promise18EachActOfWorkIsUndoneAlone() {
        MatchBureau x = new MatchBureau();
        x.addPerson(10);
        x.addPerson(20);
        Check.fileWith(x, "a");
        x.setShare(4, 7);
        undoneAlone("take", x, 10, x.take(0, 0));
        Check.due("state", x.file(0, 0), 0);
        x.take(0, 0);
        x.setShare(4, 8);
        x.setShare(4, 7);
        undoneAlone("translate", x, 1, x.translate(0, 0, 5));
        Check.due("target", x.segment(0, 0, 1), -5);
        x.translate(0, 0, 5);
        x.setShare(4, 8);
        x.setShare(4, 7);
        undoneAlone("translate again", x, 1, x.translate(0, 0, 6));
        Check.due("disputes", x.count(4), 0);
        undoneAlone("review", x, 1, x.review(0, 1));
        Check.due("state then", x.file(0, 0), 1);
        x.translate(0, 0, 6);
        x.setShare(4, 8);
        x.setShare(4, 7);
        undoneAlone("settle", x, 1, x.settle(0, 0));
        Check.due("open disputes", x.count(5), 1);
        x.settle(0, 1);
        x.review(0, 1);
        x.setShare(4, 8);
        x.setShare(4, 7);
        undoneAlone("reject", x, 1, x.reject(0, 0));
        Check.due("rejected", x.file(0, 9), 0);
        undoneAlone("deliver", x, 12, x.deliver(0));
        Check.due("in review still", x.file(0, 0), 2);
    }

    /** A bureau in which file 0 is delivered, file 1 rejected, and a dispute is settled. */
    private static MatchBureau worked() {
        MatchBureau x = new MatchBureau();
        x.keep();
        x.addPerson(10);
        x.addPerson(20);
        x.addPerson(30);
        x.bar(0, 2, true);
        Check.fileWith(x, "a.b c");
        Check.fileWith(x, "a");
        x.take(0, 0);
        x.translate(0, 0, 5);
        x.translate(0, 0, 6);
        x.translate(0, 1, 7);
        x.settle(0, 1);
        x.review(0, 1);
        x.deliver(0);
        x.take(1, 1);
        x.review(1, 2);
        x.reject(1, 0);
        return x;
    }

    private static void promise20NewThingsAreNew() {
        MatchBureau x = worked();
        x.restore();
        for (int i = 0; i < 3; i++) {
            x.addPerson(1);
            x.newFile();
        }
        for (int what = 1; what <= 7; what++) {
            Check.due("new person: " + what, x.person(0, what), what == 7 ? -5 : 0);
        }
        int[] file = {0, 0, 0, 0, -5, -5, -5, 0, 0, 0};
        for (int what = 0; what <= 9; what++) {
            Check.due("new file: " + what, x.file(0, what), file[what]);
            Check.due("new file 1: " + what, x.file(1, what), what == 3 ? 1 : file[what]);
        }
        Check.text(x, "q.r");
        x.readSegments(0);
        Check.due("new segment", x.segment(0, 0, 1), -5);
        Check.due("its way", x.segment(0, 0, 2), 0);
        x.take(0, 0);
        x.translate(0, 0, 8);
        Check.due("new entry", x.entry(0, 2), 0);
        Check.due("its target", x.entry(0, 1), 8);
        x.translate(0, 0, 9);
        Check.due("new dispute", x.dispute(0, 3), 0);
        Check.due("its choice", x.dispute(0, 4), -5);
    }

    /** Each thing is kept, undone, and another one put in its place ahead of restore(). */
    private static void promise20OtherThingsThanThoseOfNow() {
        MatchBureau x = new MatchBureau();
        x.addPerson(10);
        x.keep();
        x.undo();
        x.addPerson(20);
        x.restore();
        Check.due("rate", x.person(0, 0), 10);
        Check.entryWith(x, "a b", 5);
        x.keep();
        x.undo();
        Check.entryWith(x, "c", 6);
        x.restore();
        Check.due("words of the entry", x.entry(0, 0), 2);
        Check.due("target of the entry", x.entry(0, 1), 5);
        x.newFile();
        Check.text(x, "a b.q");
        x.readSegments(0);
        x.keep();
        x.undo();
        Check.text(x, "c.d");
        x.readSegments(0);
        x.restore();
        Check.due("segment 0", x.charAt(0, 0, 0) * 10 + x.segment(0, 0, 0), 'a' * 10 + 2);
        Check.due("segment 1", x.charAt(0, 1, 0), 'q');
        x.take(0, 0);
        x.translate(0, 1, 3);
        x.translate(0, 1, 4);
        x.keep();
        x.undo();
        x.translate(0, 0, 9);
        x.restore();
        Check.due("entry of the dispute", x.dispute(0, 0), 1);
        Check.due("its first target", x.dispute(0, 1), 3);
        Check.due("its other target", x.dispute(0, 2), 4);
        Check.due("the other segment", x.segment(0, 0, 1) * 10 + x.segment(0, 0, 2), 53);
        x.settle(0, 1);
        x.keep();
        x.undo();
        x.settle(0, 0);
        x.restore();
        Check.due("its choice", x.dispute(0, 4), 4);
        Check.due("the settled entry", x.entry(1, 1) * 10 + x.entry(1, 2), 41);
    }
}
