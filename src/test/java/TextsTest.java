/** Promises 5 and 6, and the faults of texts. */
public final class TextsTest {
    public static void main(String[] args) {
        promise5Type();
        promise6ClearText();
        textIsNoState();
        faults();
        segmentsOfAText();
        Check.finish("TextsTest");
    }

    private static void promise5Type() {
        MatchBureau x = new MatchBureau();
        for (int i = 1; i <= 60; i++) {
            Check.due("type " + i, x.type((char) (i * 1000)), i);
        }
        Check.due("type 61", x.type('a'), -3);
        Check.due("length", x.count(16), 60);
        Check.due("typing is no act", x.count(15), 0);
    }

    private static void promise6ClearText() {
        MatchBureau x = new MatchBureau();
        Check.due("clearText() of nothing", x.clearText(), 0);
        x.type('a');
        x.type((char) 0);
        x.type((char) 65535);
        Check.due("clearText()", x.clearText(), 3);
        Check.due("length", x.count(16), 0);
        Check.due("clearText() again", x.clearText(), 0);
        Check.due("type after clearing", x.type('b'), 1);
        Check.due("clearing is no act", x.count(15), 0);
    }

    private static void textIsNoState() {
        MatchBureau x = new MatchBureau();
        x.type('a');
        x.keep();
        x.newFile();
        x.type('b');
        x.undo();
        Check.due("undo leaves the text", x.count(16), 2);
        x.type('c');
        x.restore();
        Check.due("restore leaves the text", x.count(16), 3);
    }

    private static void faultIs(String text, int fault) {
        MatchBureau x = new MatchBureau();
        x.newFile();
        Check.text(x, text);
        Check.due("readSegments of '" + text + "'", x.readSegments(0), -100 - fault);
        Check.due("remember of '" + text + "'", x.remember(5), -100 - fault);
        Check.due("a fault is no act", x.count(15), 1);
        Check.due("no segments of it", x.file(0, 1), 0);
        Check.due("no entry of it", x.count(3), 0);
    }

    private static void faults() {
        faultIs("", 0);
        faultIs(" ", 0);
        faultIs(".", 0);
        faultIs("A", 0);
        faultIs("`", 0);
        faultIs("{", 0);
        faultIs("\u00e4", 0);
        faultIs("\u0161", 0);
        faultIs("1a", 0);
        faultIs("a ", 2);
        faultIs("a.", 2);
        faultIs("a  b", 2);
        faultIs("a. b", 2);
        faultIs("a..b", 2);
        faultIs("a .b", 2);
        faultIs("a,b", 1);
        faultIs("aZ b", 1);
        faultIs("abcdefghi", 8);
        faultIs("x abcdefghi", 10);
        faultIs("x.abcdefghi", 10);
        faultIs("abcdefgh ", 9);
        faultIs("a b c d e f g h ", 15);
        faultIs("a b c d e f g h i", 15);
        faultIs("z.a b c d e f g h i", 17);
        faultIs("a.b.c.d.e.f.g.h.i.j.k.l.m.", 26);
        faultIs("abcdefgh.abcdefgh.abcdefgh.abcdefgh.abcdefgh.abcdefgh.abcd..", 59);
        faultIs("abcdefgh.abcdefgh.abcdefgh.abcdefgh.abcdefgh.abcdefgh.abcde.", 60);
    }

    private static void segmentsOfAText() {
        MatchBureau x = new MatchBureau();
        x.newFile();
        Check.text(x, "abcdefgh ab.a b c d e f g h.z");
        Check.due("three segments", x.readSegments(0), 3);
        Check.due("words of 0", x.segment(0, 0, 0), 2);
        Check.due("words of 1", x.segment(0, 1, 0), 8);
        Check.due("words of 2", x.segment(0, 2, 0), 1);
        Check.due("the text stays", x.count(16), 29);
    }
}
