import java.util.TreeMap;

/**
 * Long runs of calls on a bureau and on the model, which must answer the same. The runs are the same each time,
 * and none is longer than the 512 calls for which the document promises answers.
 */
public final class ModelTest {
    private static final int RUNS = 3000;
    private static final int CALLS = 512;
    /** After so many calls a run only asks. */
    private static final int CALLS_TO_ACT = 400;

    private static final String[] TEXTS = {
        "a", "b", "c d", "a b c", "a b c d", "a b c e", "a.b", "a.a.b", "a b c.a b d", "c d.a.c d",
        "a b c d e f g", "a b c d e f h", "a b c d e f g h", "x", "y z", "abcdefgh abcdefg.x",
        "a b c d e f g h i", "a..b", "", "a ", "abcdefghi", "a.", "a,b", "k.l.m.n.o.p", "q r s t.q r s"};

    private long seed;
    private int calls;
    private final TreeMap<String, Integer> answered = new TreeMap<>();
    private MatchBureau bureau;
    private Model model;

    public static void main(String[] args) {
        new ModelTest().play();
        Check.finish("ModelTest");
    }

    private void play() {
        for (int run = 0; run < RUNS; run++) {
            seed = run * 7919L + 17;
            bureau = new MatchBureau();
            model = new Model();
            calls = 0;
            start(run % 4);
            while (calls < CALLS_TO_ACT) {
                call("run " + run + " call " + calls + ": ");
            }
            while (calls < CALLS) {
                ask("run " + run + " call " + calls + ": ");
            }
            Check.due("the calls of run " + run, calls, CALLS);
        }
        coverage();
    }

    /** Begins a run of a kind: from nothing, with files and persons, with a memory that is nearly full, or with disputes. */
    private void start(int kind) {
        if (kind == 0) {
            return;
        }
        for (int i = next(5); i >= 0; i--) {
            int rate = number(1, 50);
            same("addPerson", "start: addPerson", bureau.addPerson(rate), model.addPerson(rate));
        }
        for (int i = kind == 2 ? next(8) : 40; i < 40; i++) {
            retype(Check.word(i));
            same("remember", "start: remember", bureau.remember(1), model.remember(1));
        }
        for (int i = next(4); i >= 0; i--) {
            same("newFile", "start: newFile", bureau.newFile(), model.newFile());
            retype(kind == 1 ? TEXTS[next(TEXTS.length)] : "a.b.c.d.e.f.g.h.i.j.k.l");
            same("readSegments", "start: readSegments", bureau.readSegments(i), model.readSegments(i));
        }
        for (int s = 0; kind == 3 && s < 24; s++) {
            same("take", "start: take", bureau.take(0, 0), model.take(0, 0));
            int target = 1 + s / 12;
            same("translate", "start: translate", bureau.translate(0, s % 12, target), model.translate(0, s % 12, target));
        }
    }

    private void retype(String text) {
        same("type", "clearText", bureau.clearText(), model.clearText());
        for (int i = 0; i < text.length(); i++) {
            same("type", "type " + text, bureau.type(text.charAt(i)), model.type(text.charAt(i)));
        }
    }

    private int next(int bound) {
        seed = seed * 6364136223846793005L + 1442695040888963407L;
        return (int) ((seed >>> 33) % bound);
    }

    /** A number from low to high, and once in a while one that is outside. */
    private int number(int low, int high) {
        int kind = next(40);
        if (kind == 0) {
            return low - 1;
        }
        if (kind == 1) {
            return high + 1;
        }
        return low + next(high - low + 1);
    }

    /** Compares the answers of one call. */
    private void same(String method, String call, int got, int want) {
        calls++;
        Check.due(call, got, want);
        String kind = want <= -100 ? "fault" : want >= 0 ? "number" : String.valueOf(want);
        answered.merge(method + " " + kind, 1, Integer::sum);
    }

    private void call(String where) {
        int f = numberOf(model.count(0));
        int s = numberOf(model.file(f, 1));
        int p = numberOf(model.count(2));
        int o = numberOf(next(2) == 0 ? 6 : model.count(2));
        int t = number(1, next(4) == 0 ? 999 : 3);
        switch (next(40)) {
            case 0: int rate = number(1, 50);
                same("addPerson", where + "addPerson", bureau.addPerson(rate), model.addPerson(rate)); break;
            case 1: boolean is = next(2) == 0; same("bar", where + "bar", bureau.bar(p, o, is), model.bar(p, o, is)); break;
            case 2: same("setShare", where + "setShare", bureau.setShare(o, t), model.setShare(o, t)); break;
            case 3: case 4: case 5: case 6: retype(TEXTS[next(TEXTS.length)]); break;
            case 7: same("newFile", where + "newFile", bureau.newFile(), model.newFile()); break;
            case 8: case 9: case 10: case 11:
                same("readSegments", where + "readSegments", bureau.readSegments(f), model.readSegments(f)); break;
            case 12: case 13: same("remember", where + "remember", bureau.remember(t), model.remember(t)); break;
            case 14: int other = numberOf(model.count(0));
                same("swapFiles", where + "swapFiles", bureau.swapFiles(f, other), model.swapFiles(f, other)); break;
            case 15: if (next(3) == 0) same("withdraw", where + "withdraw", bureau.withdraw(f), model.withdraw(f)); break;
            case 16: case 17: case 18: same("take", where + "take", bureau.take(f, p), model.take(f, p)); break;
            case 19: case 20: case 21: case 22: case 23: case 24: case 25: case 26:
                same("translate", where + "translate", bureau.translate(f, s, t), model.translate(f, s, t)); break;
            case 27: case 28: case 29: finishTargets(where, f);
                same("review", where + "review", bureau.review(f, p), model.review(f, p)); break;
            case 30: same("reject", where + "reject", bureau.reject(f, s), model.reject(f, s)); break;
            case 31: same("deliver", where + "deliver", bureau.deliver(f), model.deliver(f)); break;
            case 32: case 33: int d = numberOf(model.count(4)); int which = number(0, 1);
                same("settle", where + "settle", bureau.settle(d, which), model.settle(d, which)); break;
            case 34: if (next(2) == 0) same("undo", where + "undo", bureau.undo(), model.undo()); break;
            case 35: if (next(4) == 0) same("keep", where + "keep", bureau.keep(), model.keep()); break;
            case 36: if (next(4) == 0) same("restore", where + "restore", bureau.restore(), model.restore()); break;
            default: ask(where); break;
        }
    }

    /** Gives a target to what has none, so that files come into review. */
    private void finishTargets(String where, int f) {
        for (int s = 0; next(3) != 0 && s < 12; s++) {
            if (model.segment(f, s, 1) == Model.NONE) {
                same("translate", where + "translate on", bureau.translate(f, s, 2), model.translate(f, s, 2));
            }
        }
    }

    /** A number of what there is, and once in a while one that is outside. */
    private int numberOf(int count) {
        return number(0, Math.max(0, count - 1));
    }

    private void ask(String where) {
        int f = numberOf(model.count(0));
        int s = numberOf(model.file(f, 1));
        int p = numberOf(model.count(2));
        int e = numberOf(model.count(3));
        int d = numberOf(model.count(4));
        int n = number(0, 5);
        switch (next(15)) {
            case 0: n = number(0, 7); same("person", where + "person " + n, bureau.person(p, n), model.person(p, n)); break;
            case 1: n = number(0, 9); same("file", where + "file " + n, bureau.file(f, n), model.file(f, n)); break;
            case 2: case 3: n = number(0, 6);
                same("segment", where + "segment " + n, bureau.segment(f, s, n), model.segment(f, s, n)); break;
            case 4: n = number(0, 17);
                same("charAt", where + "charAt " + n, bureau.charAt(f, s, n), model.charAt(f, s, n)); break;
            case 5: same("distance", where + "distance", bureau.distance(f, s, e), model.distance(f, s, e)); break;
            case 6: same("wordsIn", where + "wordsIn " + n, bureau.wordsIn(f, n), model.wordsIn(f, n)); break;
            case 7: same("allWords", where + "allWords " + n, bureau.allWords(n), model.allWords(n)); break;
            case 8: same("price", where + "price", bureau.price(f, p), model.price(f, p)); break;
            case 9: same("firstReviewer", where + "firstReviewer", bureau.firstReviewer(f), model.firstReviewer(f)); break;
            case 10: n = number(0, 4); same("entry", where + "entry " + n, bureau.entry(e, n), model.entry(e, n)); break;
            case 11: n = number(0, 4); same("dispute", where + "dispute " + n, bureau.dispute(d, n), model.dispute(d, n)); break;
            case 12: same("fileAt", where + "fileAt", bureau.fileAt(f), model.fileAt(f)); break;
            default: n = number(0, 16); same("count", where + "count " + n, bureau.count(n), model.count(n)); break;
        }
    }

    /** The runs are worth something only if they reach each kind of answer. */
    private void coverage() {
        String[] must = {
            "addPerson -2", "addPerson -3", "addPerson number", "bar -1", "bar -2", "bar -5", "bar number",
            "setShare -2", "setShare -5", "setShare number", "newFile -3", "newFile number",
            "readSegments -1", "readSegments fault", "readSegments -4", "readSegments -3", "readSegments number",
            "remember fault", "remember -2", "remember -4", "remember -3", "remember number",
            "swapFiles -1", "swapFiles -5", "swapFiles number", "withdraw -1", "withdraw -4", "withdraw number",
            "take -1", "take -4", "take number",
            "translate -1", "translate -2", "translate -4", "translate -5", "translate -3", "translate number",
            "review -1", "review -4", "review number", "reject -1", "reject -4", "reject number",
            "deliver -1", "deliver -4", "deliver number", "settle -1", "settle -2", "settle -4", "settle number",
            "undo -5", "undo number", "keep number", "restore -5", "restore number",
            "person -1", "person -2", "person -5", "person number", "file -1", "file -2", "file -5", "file number",
            "segment -1", "segment -2", "segment -5", "segment number",
            "charAt -1", "charAt -2", "charAt -5", "charAt number", "distance -1", "distance number",
            "wordsIn -1", "wordsIn -2", "wordsIn -5", "wordsIn number", "allWords -2", "allWords number",
            "price -1", "price -5", "price number", "firstReviewer -1", "firstReviewer -5", "firstReviewer number",
            "entry -1", "entry -2", "entry -5", "entry number",
            "dispute -1", "dispute -2", "dispute -5", "dispute number",
            "fileAt -2", "fileAt -5", "fileAt number", "count -2", "count number"};
        for (String kind : must) {
            if (!answered.containsKey(kind)) {
                Check.due("the runs answer " + kind, 0, 1);
            }
        }
        if (System.getenv("MODEL_TEST_TELLS") != null) {
            answered.forEach((kind, times) -> System.out.println(kind + ": " + times));
        }
    }
}
