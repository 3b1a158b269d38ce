/** Promises 1 to 4: a new object, persons, bars and shares. */
public final class PersonsAndSharesTest {
    public static void main(String[] args) {
        promise1NewObject();
        promise2AddPerson();
        promise3Bar();
        promise3BarOrderOfChecks();
        promise4SetShare();
        promise4SharesTellInPrices();
        Check.finish("PersonsAndSharesTest");
    }

    private static void promise1NewObject() {
        MatchBureau x = new MatchBureau();
        for (int what = 0; what <= 16; what++) {
            Check.due("new: count(" + what + ")", x.count(what), 0);
        }
        for (int band = 0; band <= 5; band++) {
            Check.due("new: allWords(" + band + ")", x.allWords(band), 0);
        }
        Check.due("new: person(0, 0)", x.person(0, 0), -1);
        Check.due("new: file(0, 0)", x.file(0, 0), -1);
        Check.due("new: entry(0, 0)", x.entry(0, 0), -1);
        Check.due("new: dispute(0, 0)", x.dispute(0, 0), -1);
        Check.due("new: fileAt(0)", x.fileAt(0), -5);
        Check.due("new: undo()", x.undo(), -5);
        Check.due("new: restore()", x.restore(), -5);
        int[] shares = {10, 20, 40, 60, 80, 100};
        for (int band = 0; band <= 5; band++) {
            Check.due("new: setShare(" + band + ")", x.setShare(band, shares[band]), -5);
        }
    }

    private static void promise2AddPerson() {
        MatchBureau x = new MatchBureau();
        Check.due("addPerson(0)", x.addPerson(0), -2);
        Check.due("addPerson(-1)", x.addPerson(-1), -2);
        Check.due("addPerson(51)", x.addPerson(51), -2);
        Check.due("addPerson(min)", x.addPerson(Integer.MIN_VALUE), -2);
        Check.due("addPerson(max)", x.addPerson(Integer.MAX_VALUE), -2);
        Check.due("no act of a wrong rate", x.count(15), 0);
        Check.due("addPerson(1)", x.addPerson(1), 0);
        Check.due("addPerson(50)", x.addPerson(50), 1);
        Check.due("rate of 0", x.person(0, 0), 1);
        Check.due("rate of 1", x.person(1, 0), 50);
        Check.due("addPerson is an act", x.count(15), 2);
        for (int i = 2; i < 6; i++) {
            Check.due("addPerson(7)", x.addPerson(7), i);
        }
        Check.due("persons", x.count(2), 6);
        x.undo();
        Check.due("the sixth again", x.addPerson(8), 5);
        Check.due("rate of the sixth", x.person(5, 0), 8);
        Check.due("a seventh", x.addPerson(7), -3);
        Check.due("a seventh with a wrong rate", x.addPerson(51), -2);
        Check.due("persons then", x.count(2), 6);
        x.undo();
        Check.due("a refused person is no act", x.count(2), 5);
    }

    private static void promise3Bar() {
        MatchBureau x = new MatchBureau();
        for (int i = 0; i < 4; i++) {
            x.addPerson(5);
        }
        Check.due("bar(0, 1, true)", x.bar(0, 1, true), 1);
        Check.due("bar(0, 1, true) again", x.bar(0, 1, true), -5);
        Check.due("bar(1, 0, true) the other way", x.bar(1, 0, true), -5);
        Check.due("bar(2, 0, true)", x.bar(2, 0, true), 1);
        Check.due("bar(0, 3, true)", x.bar(0, 3, true), 3);
        Check.due("bars of 0", x.person(0, 1), 2 + 4 + 8);
        Check.due("bars of 1", x.person(1, 1), 1);
        Check.due("bars of 2", x.person(2, 1), 1);
        Check.due("bars of 3", x.person(3, 1), 1);
        Check.due("bar(2, 3, false) that was not", x.bar(2, 3, false), -5);
        Check.due("bar(1, 0, false)", x.bar(1, 0, false), 0);
        Check.due("bars of 0 then", x.person(0, 1), 4 + 8);
        Check.due("bars of 1 then", x.person(1, 1), 0);
        Check.due("bar(0, 2, false)", x.bar(0, 2, false), 1);
        Check.due("bars of 0 at last", x.person(0, 1), 8);
        x.undo();
        Check.due("undone bars of 0", x.person(0, 1), 4 + 8);
        Check.due("undone bars of 2", x.person(2, 1), 1);
    }

    private static void promise3BarOrderOfChecks() {
        MatchBureau x = new MatchBureau();
        x.addPerson(5);
        Check.due("bar(0, 1, true) without 1", x.bar(0, 1, true), -1);
        Check.due("bar(1, 0, true) without 1", x.bar(1, 0, true), -1);
        Check.due("bar(1, 1, true) without 1", x.bar(1, 1, true), -1);
        Check.due("bar(-1, 0, true)", x.bar(-1, 0, true), -1);
        Check.due("bar(0, -1, true)", x.bar(0, -1, true), -1);
        Check.due("bar(0, max, false)", x.bar(0, Integer.MAX_VALUE, false), -1);
        Check.due("bar(0, 0, true)", x.bar(0, 0, true), -2);
        Check.due("bar(0, 0, false)", x.bar(0, 0, false), -2);
        x.addPerson(5);
        Check.due("bar(0, 1, false) that was not", x.bar(0, 1, false), -5);
        Check.due("none of these is an act", x.count(15), 2);
        x.bar(0, 1, true);
        Check.due("bar is an act", x.count(15), 3);
    }

    private static void promise4SetShare() {
        MatchBureau x = new MatchBureau();
        Check.due("setShare(-1, 5)", x.setShare(-1, 5), -2);
        Check.due("setShare(6, 5)", x.setShare(6, 5), -2);
        Check.due("setShare(0, -1)", x.setShare(0, -1), -2);
        Check.due("setShare(0, 101)", x.setShare(0, 101), -2);
        Check.due("setShare(6, 100)", x.setShare(6, 100), -2);
        Check.due("setShare(max, 5)", x.setShare(Integer.MAX_VALUE, 5), -2);
        Check.due("setShare(min, 5)", x.setShare(Integer.MIN_VALUE, 5), -2);
        Check.due("none of these is an act", x.count(15), 0);
        int[] shares = {10, 20, 40, 60, 80, 100};
        for (int band = 0; band <= 5; band++) {
            Check.due("setShare(" + band + ", 33)", x.setShare(band, 33), shares[band]);
            Check.due("setShare(" + band + ", 33) again", x.setShare(band, 33), -5);
        }
        Check.due("setShare(0, 0)", x.setShare(0, 0), 33);
        Check.due("setShare(0, 100)", x.setShare(0, 100), 0);
        Check.due("undo()", x.undo(), 3);
        Check.due("setShare(0, 100) after undo", x.setShare(0, 100), 0);
        Check.due("setShare(5, 100)", x.setShare(5, 100), 33);
    }

    private static void promise4SharesTellInPrices() {
        MatchBureau x = new MatchBureau();
        x.addPerson(7);
        Check.fileWith(x, "a b c");
        Check.due("price at 100", x.price(0, 0), 21);
        x.setShare(5, 50);
        Check.due("price at 50", x.price(0, 0), 10);
        x.setShare(5, 0);
        Check.due("price at 0", x.price(0, 0), 0);
    }
}
