import java.util.TreeMap;

/** Long runs of calls on a bureau and on the model, which must answer the same. The runs are the same each time. */
public final class ModelTest {
    private static final int RUNS = 600;
    private static final int CALLS = 512;

    private static final String[] TEXTS = {
        "a", "b", "c d", "a b c", "a b c d", "a b c e", "a.b", "a.a.b", "a b c.a b d", "c d.a.c d",
        "a b c d e f g", "a b c d e f h", "a b c d e f g h", "x", "y z", "abcdefgh abcdefg.x",
        "a b c d e f g h i", "a..b", "", "a ", "abcdefghi", "a.", "a,b", "k.l.m.n.o.p", "q r s t.q r s"};

    private long seed;
    private final TreeMap<String, Integer> answered = new TreeMap<>();
    private MatchBureau bureau;
    private Model model;

    public static void main(String[] args) {
        new ModelTest().play();
        Check.finish("ModelTest");
    }

    private void play() {
        for (int run = 0; run < RUNS; run++) {
            seed = run * 7919L + 17;
            bureau = new MatchBureau();
            model = new Model();
            boolean crowded = run % 3 == 0;
            for (int i = 0; i < CALLS; i++) {
                if (crowded && next(4) == 0) {
                    crowd();
                }
                call("run " + run + " call " + i + ": ");
            }
            compareAll("run " + run + " at its end: ");
        }
        coverage();
    }

    /** Adds an entry that is most likely a new one, so that the memory and the disputes fill. */
    private void crowd() {
        String text = "" + (char) ('a' + next(3)) + (char) ('a' + next(12)) + (next(2) == 0 ? " a" : "");
        retype(text);
        int target = number(1, 4);
        int file = number(0, 7);
        same("crowd", "remember " + text, bureau.remember(target), model.remember(target));
        same("crowd", "readSegments " + text, bureau.readSegments(file), model.readSegments(file));
    }

    private void retype(String text) {
        same("type", "clearText", bureau.clearText(), model.clearText());
        for (int i = 0; i < text.length(); i++) {
            same("type", "type " + text, bureau.type(text.charAt(i)), model.type(text.charAt(i)));
        }
    }

    private int next(int bound) {
        seed = seed * 6364136223846793005L + 1442695040888963407L;
        return (int) ((seed >>> 33) % bound);
    }

    /** A number from low to high, and once in a while one that is outside. */
    private int number(int low, int high) {
        int kind = next(40);
        if (kind == 0) {
            return low - 1;
        }
        if (kind == 1) {
            return high + 1;
        }
        return low + next(high - low + 1);
    }

    private void same(String method, String call, int got, int want) {
        Check.due(call, got, want);
        String kind = want <= -100 ? "fault" : want >= 0 ? "number" : String.valueOf(want);
        answered.merge(method + " " + kind, 1, Integer::sum);
    }

    private void call(String where) {
        int f = number(0, next(3) == 0 ? 7 : 2);
        int s = number(0, next(3) == 0 ? 11 : 3);
        int p = number(0, next(3) == 0 ? 5 : 2);
        int o = number(0, 5);
        int t = number(1, next(4) == 0 ? 999 : 3);
        switch (next(40)) {
            case 0: same("addPerson", where + "addPerson", bureau.addPerson(5 * p), model.addPerson(5 * p)); break;
            case 1: same("bar", where + "bar", bureau.bar(p, o, s < 2), model.bar(p, o, s < 2)); break;
            case 2: same("setShare", where + "setShare", bureau.setShare(o, t), model.setShare(o, t)); break;
            case 3: case 4: case 5: case 6: retype(TEXTS[next(TEXTS.length)]); break;
            case 7: same("newFile", where + "newFile", bureau.newFile(), model.newFile()); break;
            case 8: case 9: case 10: case 11:
                same("readSegments", where + "readSegments", bureau.readSegments(f), model.readSegments(f)); break;
            case 12: case 13: same("remember", where + "remember", bureau.remember(t), model.remember(t)); break;
            case 14: same("swapFiles", where + "swapFiles", bureau.swapFiles(f, o), model.swapFiles(f, o)); break;
            case 15: if (next(3) == 0) same("withdraw", where + "withdraw", bureau.withdraw(f), model.withdraw(f)); break;
            case 16: case 17: case 18: same("take", where + "take", bureau.take(f, p), model.take(f, p)); break;
            case 19: case 20: case 21: case 22: case 23: case 24: case 25: case 26:
                same("translate", where + "translate", bureau.translate(f, s, t), model.translate(f, s, t)); break;
            case 27: case 28: case 29: finishTargets(where, f); 
                same("review", where + "review", bureau.review(f, p), model.review(f, p)); break;
            case 30: same("reject", where + "reject", bureau.reject(f, s), model.reject(f, s)); break;
            case 31: same("deliver", where + "deliver", bureau.deliver(f), model.deliver(f)); break;
            case 32: case 33: int d = number(0, 9); int which = number(0, 1);
                same("settle", where + "settle", bureau.settle(d, which), model.settle(d, which)); break;
            case 34: same("undo", where + "undo", bureau.undo(), model.undo()); break;
            case 35: if (next(4) == 0) same("keep", where + "keep", bureau.keep(), model.keep()); break;
            case 36: if (next(4) == 0) same("restore", where + "restore", bureau.restore(), model.restore()); break;
            default: ask(where); break;
        }
    }

    /** Gives a target to what has none, so that files come into review. */
    private void finishTargets(String where, int f) {
        for (int s = 0; next(3) != 0 && s < 12; s++) {
            if (model.segment(f, s, 1) == Model.NONE) {
                same("translate", where + "translate on", bureau.translate(f, s, 2), model.translate(f, s, 2));
            }
        }
    }

    private void ask(String where) {
        int f = number(0, 7);
        int s = number(0, 11);
        int p = number(0, 5);
        int n = number(0, 17);
        switch (next(13)) {
            case 0: same("person", where + "person " + n, bureau.person(p, n), model.person(p, n)); break;
            case 1: same("file", where + "file " + n, bureau.file(f, n), model.file(f, n)); break;
            case 2: same("segment", where + "segment " + n, bureau.segment(f, s, n), model.segment(f, s, n)); break;
            case 3: same("charAt", where + "charAt " + n, bureau.charAt(f, s, n), model.charAt(f, s, n)); break;
            case 4: same("distance", where + "distance " + n, bureau.distance(f, s, n), model.distance(f, s, n)); break;
            case 5: same("wordsIn", where + "wordsIn " + p, bureau.wordsIn(f, p), model.wordsIn(f, p)); break;
            case 6: same("allWords", where + "allWords " + p, bureau.allWords(p), model.allWords(p)); break;
            case 7: same("price", where + "price", bureau.price(f, p), model.price(f, p)); break;
            case 8: same("firstReviewer", where + "firstReviewer", bureau.firstReviewer(f), model.firstReviewer(f)); break;
            case 9: same("entry", where + "entry " + p, bureau.entry(n, p), model.entry(n, p)); break;
            case 10: same("dispute", where + "dispute " + p, bureau.dispute(n, p), model.dispute(n, p)); break;
            case 11: same("fileAt", where + "fileAt", bureau.fileAt(f), model.fileAt(f)); break;
            default: same("count", where + "count " + n, bureau.count(n), model.count(n)); break;
        }
    }

    private void compareAll(String where) {
        for (int n = -1; n <= 17; n++) {
            same("count", where + "count " + n, bureau.count(n), model.count(n));
        }
        for (int n = -1; n <= 6; n++) {
            same("allWords", where + "allWords " + n, bureau.allWords(n), model.allWords(n));
        }
        for (int p = -1; p <= 6; p++) {
            for (int n = -1; n <= 8; n++) {
                same("person", where + "person " + n, bureau.person(p, n), model.person(p, n));
            }
        }
        for (int f = -1; f <= 8; f++) {
            compareFile(where, f);
        }
        for (int e = -1; e <= 40; e++) {
            for (int n = -1; n <= 5; n++) {
                same("entry", where + "entry " + n, bureau.entry(e, n), model.entry(e, n));
                same("dispute", where + "dispute " + n, bureau.dispute(e, n), model.dispute(e, n));
            }
        }
    }

    private void compareFile(String where, int f) {
        same("fileAt", where + "fileAt", bureau.fileAt(f), model.fileAt(f));
        same("firstReviewer", where + "firstReviewer", bureau.firstReviewer(f), model.firstReviewer(f));
        for (int n = -1; n <= 10; n++) {
            same("file", where + "file " + n, bureau.file(f, n), model.file(f, n));
            same("wordsIn", where + "wordsIn " + n, bureau.wordsIn(f, n), model.wordsIn(f, n));
            same("price", where + "price", bureau.price(f, n), model.price(f, n));
        }
        for (int s = -1; s <= 12; s++) {
            for (int n = -1; n <= 7; n++) {
                same("segment", where + "segment " + n, bureau.segment(f, s, n), model.segment(f, s, n));
            }
            for (int n = -1; n <= 40; n++) {
                same("charAt", where + "charAt " + n, bureau.charAt(f, s, n), model.charAt(f, s, n));
                same("distance", where + "distance " + n, bureau.distance(f, s, n), model.distance(f, s, n));
            }
        }
    }

    /** The runs are worth something only if they reach each kind of answer. */
    private void coverage() {
        String[] must = {
            "addPerson -2", "addPerson -3", "addPerson number", "bar -1", "bar -2", "bar -5", "bar number",
            "setShare -2", "setShare -5", "setShare number", "newFile -3", "newFile number",
            "readSegments -1", "readSegments fault", "readSegments -4", "readSegments -3", "readSegments number",
            "remember fault", "remember -2", "remember -4", "crowd -3", "remember number",
            "swapFiles -1", "swapFiles -5", "swapFiles number", "withdraw -1", "withdraw -4", "withdraw number",
            "take -1", "take -4", "take number",
            "translate -1", "translate -2", "translate -4", "translate -5", "translate -3", "translate number",
            "review -1", "review -4", "review number", "reject -1", "reject -4", "reject number",
            "deliver -1", "deliver -4", "deliver number", "settle -1", "settle -2", "settle -4", "settle number",
            "undo -5", "undo number", "keep number", "restore -5", "restore number"};
        for (String kind : must) {
            if (!answered.containsKey(kind)) {
                Check.due("the runs answer " + kind, 0, 1);
            }
        }
        if (System.getenv("MODEL_TEST_TELLS") != null) {
            answered.forEach((kind, times) -> System.out.println(kind + ": " + times));
        }
    }
}
