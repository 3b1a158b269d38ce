/** Promises 18 to 20: undo, keep and restore. */
public final class HistoryTest {
    public static void main(String[] args) {
        promise18Undo();
        promise18FourStates();
        promise18UndoRestoresEverything();
        promise18OnlyActsAreRecorded();
        promise19Keep();
        promise20Restore();
        promise20RestoreIsAnAct();
        Check.finish("HistoryTest");
    }

    private static void promise18Undo() {
        MatchBureau x = new MatchBureau();
        Check.due("undo() of nothing", x.undo(), -5);
        x.addPerson(1);
        Check.due("undo()", x.undo(), 0);
        Check.due("persons", x.count(2), 0);
        Check.due("undo() again", x.undo(), -5);
        x.addPerson(2);
        x.addPerson(3);
        Check.due("undo() of two", x.undo(), 1);
        Check.due("rate of the other", x.person(0, 0), 2);
        Check.due("undo() records nothing", x.undo(), 0);
        Check.due("none left", x.count(2), 0);
    }

    private static void promise18FourStates() {
        MatchBureau x = new MatchBureau();
        for (int i = 1; i <= 6; i++) {
            x.addPerson(i);
            Check.due("states", x.count(15), Math.min(i, 4));
        }
        for (int left = 3; left >= 0; left--) {
            Check.due("undo()", x.undo(), left);
            Check.due("persons then", x.count(2), left + 2);
        }
        Check.due("undo() then", x.undo(), -5);
        Check.due("persons at last", x.count(2), 2);
        x.addPerson(30);
        Check.due("rate of the new one", x.person(2, 0), 30);
        Check.due("undo() of it", x.undo(), 0);
        for (int i = 0; i < 9; i++) {
            x.setShare(0, i);
        }
        x.undo();
        x.undo();
        x.setShare(0, 50);
        x.undo();
        Check.due("share", x.setShare(0, 77), 6);
        Check.due("states at last", x.count(15), 3);
    }

    private static void promise18UndoRestoresEverything() {
        MatchBureau x = new MatchBureau();
        x.addPerson(10);
        x.addPerson(20);
        Check.entryWith(x, "a", 3);
        Check.fileWith(x, "a.b");
        x.newFile();
        x.take(0, 0);
        x.bar(0, 1, true);
        x.swapFiles(0, 1);
        x.setShare(5, 1);
        x.translate(0, 0, 9);
        Check.due("undo translate", x.undo(), 3);
        Check.due("target", x.segment(0, 0, 1) * 10 + x.segment(0, 0, 2), 33);
        Check.due("disputes", x.count(4), 0);
        Check.due("undo setShare", x.undo(), 2);
        Check.due("share", x.price(0, 0), 12);
        Check.due("undo swapFiles", x.undo(), 1);
        Check.due("order", x.fileAt(0) * 10 + x.fileAt(1), 1);
        Check.due("undo bar", x.undo(), 0);
        Check.due("bars", x.person(0, 1) + x.person(1, 1), 0);
        Check.due("the file is taken still", x.file(0, 0), 1);
    }

    private static void promise18OnlyActsAreRecorded() {
        MatchBureau x = new MatchBureau();
        x.type('a');
        x.clearText();
        x.keep();
        x.addPerson(99);
        x.setShare(0, 10);
        x.readSegments(0);
        x.remember(5);
        x.newFile();
        x.readSegments(0);
        x.swapFiles(0, 0);
        x.take(0, 0);
        x.deliver(0);
        Check.due("states", x.count(15), 1);
        x.withdraw(0);
        x.withdraw(0);
        Check.due("states then", x.count(15), 2);
    }

    private static void promise19Keep() {
        MatchBureau x = new MatchBureau();
        Check.due("keep() of nothing", x.keep(), 0);
        x.newFile();
        Check.due("restore() of nothing", x.restore(), 0);
        Check.due("files", x.count(0), 0);
        x.newFile();
        x.newFile();
        Check.due("keep()", x.keep(), 2);
        Check.due("keep() again", x.keep(), 2);
        Check.due("keep is no act", x.count(15), 4);
        x.withdraw(0);
        x.undo();
        x.undo();
        Check.due("undo leaves the snapshot", x.restore(), 2);
        x.addPerson(5);
        x.keep();
        x.undo();
        x.restore();
        Check.due("in place of the one that was", x.count(2), 1);
    }

    private static void promise20Restore() {
        MatchBureau x = new MatchBureau();
        Check.due("restore() without a snapshot", x.restore(), -5);
        Check.due("that is no act", x.count(15), 0);
        x.addPerson(10);
        Check.entryWith(x, "a", 3);
        Check.fileWith(x, "a.b");
        x.keep();
        x.take(0, 0);
        x.translate(0, 1, 4);
        x.newFile();
        x.swapFiles(0, 1);
        x.addPerson(11);
        x.setShare(3, 5);
        x.type('c');
        Check.due("restore()", x.restore(), 1);
        Check.due("state", x.file(0, 0), 0);
        Check.due("persons", x.count(2), 1);
        Check.due("entries", x.count(3), 1);
        Check.due("targets", x.file(0, 8), 2);
        Check.due("share", x.setShare(3, 60), -5);
        Check.due("place", x.file(0, 3), 0);
        Check.due("the text stays", x.count(16), 4);
        x.newFile();
        Check.due("the snapshot stays", x.restore(), 1);
        x.withdraw(0);
        Check.due("and stays", x.restore(), 1);
        Check.due("as it was", x.file(0, 0), 0);
    }

    private static void promise20RestoreIsAnAct() {
        MatchBureau x = new MatchBureau();
        x.keep();
        x.newFile();
        x.newFile();
        Check.due("restore()", x.restore(), 0);
        Check.due("states", x.count(15), 3);
        Check.due("undo()", x.undo(), 2);
        Check.due("files", x.count(0), 2);
        x.restore();
        Check.due("restore() of the same", x.restore(), 0);
        Check.due("states then", x.count(15), 4);
    }
}
