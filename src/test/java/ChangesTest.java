import java.util.ArrayList;
import java.util.LinkedHashMap;
import java.util.List;
import java.util.Map;
import java.util.function.Supplier;
import java.util.function.ToIntFunction;

/**
 * A call that returns an error or NONE changes nothing, and an act records one state, the one before it.
 * All that can be told is asked after each call, of as many objects as it takes to keep below 512 calls each.
 */
public final class ChangesTest {
    /** So many questions go to one object. */
    private static final int BATCH = 120;
    private static final int WORLDS = 7;
    /** The first ones of them. */
    private static final int WORLDS_WITH_ACTS = 4;

    private static final List<ToIntFunction<MatchBureau>> TOLD = new ArrayList<>();
    /** Questions that tell by changing something, so that they come last. */
    private static final List<ToIntFunction<MatchBureau>> TRIED = new ArrayList<>();

    public static void main(String[] args) {
        collectQuestions();
        for (int world = 0; world < WORLDS; world++) {
            refused(world);
        }
        for (int world = 0; world < WORLDS_WITH_ACTS; world++) {
            acts(world);
            noActs(world);
        }
        Check.finish("ChangesTest");
    }

    private static void collectQuestions() {
        for (int a = 0; a < 40; a++) {
            for (int b = 0; b < 12; b++) {
                ask(a, b);
            }
        }
        for (int what = 0; what <= 16; what++) {
            int asked = what;
            // How many states there are differs after an act and undo(), as the oldest one may be dropped.
            TOLD.add(x -> asked == 15 ? 0 : x.count(asked));
        }
        for (int band = 0; band <= 5; band++) {
            int asked = band;
            TRIED.add(x -> x.setShare(asked, 1));
        }
        TRIED.add(x -> x.readSegments(0));
        TRIED.add(x -> x.charAt(0, 0, 0) + 1000 * x.charAt(0, 1, 0) + 1000000 * x.charAt(0, 2, 0));
        TRIED.add(x -> x.remember(998));
        TRIED.add(x -> x.newFile());
        TRIED.add(x -> x.addPerson(9));
    }

    private static void ask(int a, int b) {
        if (a < 6 && b < 8) {
            TOLD.add(x -> x.person(a, b));
        }
        if (a < 8 && b < 10) {
            TOLD.add(x -> x.file(a, b));
        }
        if (a < 8) {
            TOLD.add(x -> x.charAt(a, b, 1));
            for (int what = 0; what <= 6; what++) {
                int asked = what;
                TOLD.add(x -> x.segment(a, b, asked));
            }
        }
        if (a < 8 && b < 6) {
            TOLD.add(x -> x.wordsIn(a, b));
            TOLD.add(x -> x.price(a, b));
        }
        if (b < 5) {
            TOLD.add(x -> x.entry(a, b));
        }
        if (a < 10 && b < 5) {
            TOLD.add(x -> x.dispute(a, b));
        }
        if (a < 8 && b == 0) {
            TOLD.add(x -> x.fileAt(a));
            TOLD.add(x -> x.firstReviewer(a));
            TOLD.add(x -> x.allWords(a));
        }
    }

    /** All that is told of objects that are made alike. */
    private static List<Integer> told(Supplier<MatchBureau> made, boolean withTried) {
        List<Integer> answers = new ArrayList<>();
        for (int start = 0; start < TOLD.size(); start += BATCH) {
            MatchBureau x = made.get();
            for (int i = start; i < Math.min(start + BATCH, TOLD.size()); i++) {
                answers.add(TOLD.get(i).applyAsInt(x));
            }
        }
        if (withTried) {
            MatchBureau x = made.get();
            for (ToIntFunction<MatchBureau> question : TRIED) {
                answers.add(question.applyAsInt(x));
            }
        }
        return answers;
    }

    private static void same(String call, List<Integer> got, List<Integer> want) {
        int at = 0;
        while (at < want.size() - 1 && got.get(at).equals(want.get(at))) {
            at++;
        }
        Check.due(call + ": question " + at + " of " + want.size(), got.get(at), want.get(at));
    }

    // ---- the worlds

    private static MatchBureau world(int number) {
        switch (number) {
            case 0:
                return new MatchBureau();
            case 1:
                return busy("q r.s");
            case 2:
                return busy("q r");
            case 3:
                return full("new.newer.newest.a.b.c.d.e.f.g.h.i.j.k.l.m.n.o.p.q.r.s.t.u.v");
            case 4:
                return full("aa");
            case 5:
                return full("new");
            default:
                return full("new ");
        }
    }

    /** Files in all states, entries with and without disputes, a snapshot, and a text. */
    private static MatchBureau busy(String text) {
        MatchBureau x = TermsEdgesTest.fiveStates();
        x.bar(0, 2, true);
        x.setShare(4, 70);
        Check.fileWith(x, "b.c d.a");
        x.take(5, 0);
        x.translate(5, 0, 5);
        x.translate(5, 0, 6);
        x.settle(0, 1);
        Check.fileWith(x, "b");
        x.take(6, 2);
        x.keep();
        x.newFile();
        x.translate(1, 0, 4);
        x.swapFiles(0, 2);
        Check.text(x, text);
        return x;
    }

    /** As many of each as there may be; all ten disputes are open but the first one. */
    private static MatchBureau full(String text) {
        MatchBureau x = Check.withPersons(1, 2, 3, 4, 49, 50);
        Check.fileWith(x, "aa.ab.ac.ad.ae.af.ag.ah.ai.aj.ak.al");
        for (int i = 1; i < 8; i++) {
            x.newFile();
            x.readSegments(i);
        }
        x.take(0, 5);
        x.take(7, 4);
        for (int i = 0; i < 12; i++) {
            x.translate(0, i, 1);
        }
        for (int i = 12; i < 40; i++) {
            Check.entryWith(x, Check.word(i), 2);
        }
        for (int i = 0; i < 10; i++) {
            x.translate(0, i, 3);
        }
        x.settle(0, 0);
        x.keep();
        x.take(6, 3);
        x.withdraw(5);
        x.setShare(5, 0);
        x.bar(0, 5, true);
        Check.text(x, text);
        return x;
    }

    // ---- what follows on a call

    /** What is done after the call, so that its history and its snapshot can be told, too. */
    private static void follow(MatchBureau x, int number) {
        for (int i = 0; i < number && number <= 4; i++) {
            x.undo();
        }
        if (number == 5) {
            x.restore();
        }
    }

    private static MatchBureau after(int world, ToIntFunction<MatchBureau> call, int following) {
        MatchBureau x = world(world);
        call.applyAsInt(x);
        follow(x, following);
        return x;
    }

    private static List<List<Integer>> withoutCall(int world, boolean withTried) {
        List<List<Integer>> answers = new ArrayList<>();
        for (int following = 0; following <= 5; following++) {
            int now = following;
            answers.add(told(() -> after(world, x -> 0, now), withTried));
        }
        return answers;
    }

    // ---- refused calls

    private static void refused(int world) {
        Check.sentence("A call that returns an error or NONE changes nothing");
        List<List<Integer>> want = withoutCall(world, true);
        Map<String, ToIntFunction<MatchBureau>> calls = new LinkedHashMap<>();
        if (world == 0) {
            refusedByAnEmptyOne(calls);
        } else if (world == 1) {
            refusedByABusyOne(calls);
        } else if (world == 3) {
            refusedByAFullOne(calls);
        } else {
            refusedForItsText(world, calls);
        }
        for (Map.Entry<String, ToIntFunction<MatchBureau>> call : calls.entrySet()) {
            String name = "world " + world + ": " + call.getKey();
            int due = Integer.parseInt(call.getKey().replaceAll(".*= ", ""));
            MatchBureau one = world(world);
            int states = one.count(15);
            Check.due(name, call.getValue().applyAsInt(one), due);
            Check.due(name + ": states", one.count(15), states);
            for (int following = 0; following <= 5; following++) {
                int now = following;
                same(name + " then " + now, told(() -> after(world, call.getValue(), now), true), want.get(now));
            }
        }
    }

    private static void refusedByAnEmptyOne(Map<String, ToIntFunction<MatchBureau>> calls) {
        calls.put("addPerson(0) = -2", x -> x.addPerson(0));
        calls.put("addPerson(51) = -2", x -> x.addPerson(51));
        calls.put("bar(0, 0, true) = -1", x -> x.bar(0, 0, true));
        calls.put("setShare(6, 1) = -2", x -> x.setShare(6, 1));
        calls.put("setShare(0, 101) = -2", x -> x.setShare(0, 101));
        calls.put("setShare(0, 10) = -5", x -> x.setShare(0, 10));
        calls.put("readSegments(0) = -1", x -> x.readSegments(0));
        calls.put("remember(1) = -100", x -> x.remember(1));
        calls.put("swapFiles(0, 0) = -1", x -> x.swapFiles(0, 0));
        calls.put("withdraw(0) = -1", x -> x.withdraw(0));
        calls.put("take(0, 0) = -1", x -> x.take(0, 0));
        calls.put("translate(0, 0, 1) = -1", x -> x.translate(0, 0, 1));
        calls.put("review(0, 0) = -1", x -> x.review(0, 0));
        calls.put("reject(0, 0) = -1", x -> x.reject(0, 0));
        calls.put("deliver(0) = -1", x -> x.deliver(0));
        calls.put("settle(0, 0) = -1", x -> x.settle(0, 0));
        calls.put("undo() = -5", x -> x.undo());
        calls.put("restore() = -5", x -> x.restore());
    }

    private static void refusedByABusyOne(Map<String, ToIntFunction<MatchBureau>> calls) {
        calls.put("bar(0, 3, true) = -1", x -> x.bar(0, 3, true));
        calls.put("bar(1, 1, true) = -2", x -> x.bar(1, 1, true));
        calls.put("bar(2, 0, true) = -5", x -> x.bar(2, 0, true));
        calls.put("bar(1, 0, false) = -5", x -> x.bar(1, 0, false));
        calls.put("setShare(4, 70) = -5", x -> x.setShare(4, 70));
        calls.put("setShare(4, -1) = -2", x -> x.setShare(4, -1));
        for (int i = 1; i < 6; i++) {
            int file = i;
            calls.put("readSegments(" + i + ") = -4", x -> x.readSegments(file));
            calls.put("take(" + i + ", 1) = -4", x -> x.take(file, 1));
        }
        calls.put("take(7, 1), without segments = -4", x -> x.take(7, 1));
        calls.put("newFile() = -3", x -> x.newFile());
        calls.put("take(0, 3) = -1", x -> x.take(0, 3));
        calls.put("remember(5), two segments = -2", x -> x.remember(5));
        calls.put("remember(0) = -2", x -> x.remember(0));
        calls.put("swapFiles(2, 2) = -5", x -> x.swapFiles(2, 2));
        calls.put("swapFiles(2, 8) = -1", x -> x.swapFiles(2, 8));
        calls.put("withdraw(3) = -4", x -> x.withdraw(3));
        calls.put("withdraw(4) = -4", x -> x.withdraw(4));
        calls.put("translate(0, 0, 5), open = -4", x -> x.translate(0, 0, 5));
        calls.put("translate(2, 0, 5), in review = -4", x -> x.translate(2, 0, 5));
        calls.put("translate(3, 0, 5), delivered = -4", x -> x.translate(3, 0, 5));
        calls.put("translate(4, 0, 5), withdrawn = -4", x -> x.translate(4, 0, 5));
        calls.put("translate(5, 0, 5), settled = -4", x -> x.translate(5, 0, 5));
        calls.put("translate(5, 0, 6), settled = -5", x -> x.translate(5, 0, 6));
        calls.put("translate(5, 2, 3) = -5", x -> x.translate(5, 2, 3));
        calls.put("translate(5, 1, 1000) = -2", x -> x.translate(5, 1, 1000));
        calls.put("translate(5, 3, 1) = -1", x -> x.translate(5, 3, 1));
        calls.put("review(0, 1), open = -4", x -> x.review(0, 1));
        calls.put("review(1, 2), barred and disputed = -4", x -> x.review(1, 2));
        calls.put("review(2, 2), in review = -4", x -> x.review(2, 2));
        calls.put("review(5, 2), without a target = -4", x -> x.review(5, 2));
        calls.put("review(1, 3) = -1", x -> x.review(1, 3));
        calls.put("reject(1, 0) = -4", x -> x.reject(1, 0));
        calls.put("reject(2, 1) = -1", x -> x.reject(2, 1));
        calls.put("reject(3, 0) = -4", x -> x.reject(3, 0));
        calls.put("deliver(1) = -4", x -> x.deliver(1));
        calls.put("deliver(3) = -4", x -> x.deliver(3));
        calls.put("settle(0, 0) = -4", x -> x.settle(0, 0));
        calls.put("settle(1, 2) = -2", x -> x.settle(1, 2));
        calls.put("settle(2, 0) = -1", x -> x.settle(2, 0));
        toldByABusyOne(calls);
    }

    /** What is told, with errors and NONE. */
    private static void toldByABusyOne(Map<String, ToIntFunction<MatchBureau>> calls) {
        calls.put("person(3, 0) = -1", x -> x.person(3, 0));
        calls.put("person(0, 8) = -2", x -> x.person(0, 8));
        calls.put("person(2, 7) = -5", x -> x.person(2, 7));
        calls.put("file(8, 0) = -1", x -> x.file(8, 0));
        calls.put("file(0, 10) = -2", x -> x.file(0, 10));
        calls.put("file(0, 4) = -5", x -> x.file(0, 4));
        calls.put("segment(5, 3, 0) = -1", x -> x.segment(5, 3, 0));
        calls.put("segment(5, 2, 7) = -2", x -> x.segment(5, 2, 7));
        calls.put("segment(4, 0, 6) = -5", x -> x.segment(4, 0, 6));
        calls.put("charAt(7, 0, 0) = -1", x -> x.charAt(7, 0, 0));
        calls.put("charAt(5, 0, -1) = -2", x -> x.charAt(5, 0, -1));
        calls.put("charAt(5, 0, 9) = -5", x -> x.charAt(5, 0, 9));
        calls.put("distance(5, 0, 2) = -1", x -> x.distance(5, 0, 2));
        calls.put("wordsIn(5, 6) = -2", x -> x.wordsIn(5, 6));
        calls.put("wordsIn(3, 0) = -5", x -> x.wordsIn(3, 0));
        calls.put("allWords(6) = -2", x -> x.allWords(6));
        calls.put("price(5, 3) = -1", x -> x.price(5, 3));
        calls.put("price(3, 0) = -5", x -> x.price(3, 0));
        calls.put("firstReviewer(8) = -1", x -> x.firstReviewer(8));
        calls.put("firstReviewer(0) = -5", x -> x.firstReviewer(0));
        calls.put("entry(2, 0) = -1", x -> x.entry(2, 0));
        calls.put("entry(0, 5) = -2", x -> x.entry(0, 5));
        calls.put("dispute(2, 0) = -1", x -> x.dispute(2, 0));
        calls.put("dispute(1, 4) = -5", x -> x.dispute(1, 4));
        calls.put("fileAt(-1) = -2", x -> x.fileAt(-1));
        calls.put("fileAt(8) = -5", x -> x.fileAt(8));
        calls.put("count(17) = -2", x -> x.count(17));
    }

    private static void refusedByAFullOne(Map<String, ToIntFunction<MatchBureau>> calls) {
        calls.put("addPerson(1) = -3", x -> x.addPerson(1));
        calls.put("type = -3", x -> x.type('a'));
        calls.put("newFile() = -3", x -> x.newFile());
        calls.put("readSegments(1) = -3", x -> x.readSegments(1));
        calls.put("readSegments(0), taken = -4", x -> x.readSegments(0));
        calls.put("remember(1), many segments = -2", x -> x.remember(1));
        calls.put("translate(0, 10, 2), an eleventh dispute = -3", x -> x.translate(0, 10, 2));
        calls.put("translate(0, 0, 3), settled = -4", x -> x.translate(0, 0, 3));
        calls.put("translate(0, 1, 3) = -5", x -> x.translate(0, 1, 3));
        calls.put("review(0, 1), disputed = -4", x -> x.review(0, 1));
        calls.put("settle(0, 1) = -4", x -> x.settle(0, 1));
        calls.put("settle(10, 0) = -1", x -> x.settle(10, 0));
        calls.put("settle(9, -1) = -2", x -> x.settle(9, -1));
        calls.put("take(5, 0), withdrawn = -4", x -> x.take(5, 0));
        calls.put("withdraw(5) = -4", x -> x.withdraw(5));
    }

    private static void refusedForItsText(int world, Map<String, ToIntFunction<MatchBureau>> calls) {
        if (world == 2) {
            calls.put("remember(0) = -2", x -> x.remember(0));
            calls.put("remember(1000) = -2", x -> x.remember(1000));
        } else if (world == 4) {
            calls.put("remember(1), alike = -4", x -> x.remember(1));
            calls.put("remember(1000), alike = -2", x -> x.remember(1000));
            calls.put("readSegments(7), taken = -4", x -> x.readSegments(7));
        } else if (world == 5) {
            calls.put("remember(1) = -3", x -> x.remember(1));
            calls.put("readSegments(1) = -3", x -> x.readSegments(1));
            calls.put("readSegments(8) = -1", x -> x.readSegments(8));
        } else {
            calls.put("remember(1), a fault = -104", x -> x.remember(1));
            calls.put("readSegments(1), a fault = -104", x -> x.readSegments(1));
        }
    }

    // ---- acts

    private static Map<String, ToIntFunction<MatchBureau>> allowed(int world) {
        Map<String, ToIntFunction<MatchBureau>> calls = new LinkedHashMap<>();
        if (world == 0) {
            calls.put("addPerson(1)", x -> x.addPerson(1));
            calls.put("setShare(0, 1)", x -> x.setShare(0, 1));
            calls.put("newFile()", x -> x.newFile());
        } else if (world == 1) {
            calls.put("addPerson(1)", x -> x.addPerson(1));
            calls.put("bar(0, 1, true)", x -> x.bar(0, 1, true));
            calls.put("bar(2, 0, false)", x -> x.bar(2, 0, false));
            calls.put("setShare(0, 1)", x -> x.setShare(0, 1));
            calls.put("readSegments(0)", x -> x.readSegments(0));
            calls.put("readSegments(7)", x -> x.readSegments(7));
            calls.put("swapFiles(6, 3)", x -> x.swapFiles(6, 3));
            calls.put("withdraw(0)", x -> x.withdraw(0));
            calls.put("withdraw(2)", x -> x.withdraw(2));
            calls.put("take(0, 2)", x -> x.take(0, 2));
            calls.put("translate(5, 1, 9), a new entry", x -> x.translate(5, 1, 9));
            calls.put("translate(5, 2, 9)", x -> x.translate(5, 2, 9));
            calls.put("review(6, 1)", x -> x.review(6, 1));
            calls.put("reject(2, 0)", x -> x.reject(2, 0));
            calls.put("deliver(2)", x -> x.deliver(2));
            calls.put("settle(1, 0)", x -> x.settle(1, 0));
            calls.put("settle(1, 1)", x -> x.settle(1, 1));
            calls.put("restore()", x -> x.restore());
        } else if (world == 2) {
            calls.put("remember(5)", x -> x.remember(5));
            calls.put("readSegments(0)", x -> x.readSegments(0));
        } else {
            calls.put("withdraw(0)", x -> x.withdraw(0));
            calls.put("swapFiles(0, 7)", x -> x.swapFiles(0, 7));
            calls.put("take(1, 0)", x -> x.take(1, 0));
            calls.put("translate(0, 9, 9)", x -> x.translate(0, 9, 9));
            calls.put("settle(9, 1)", x -> x.settle(9, 1));
            calls.put("restore()", x -> x.restore());
        }
        return calls;
    }

    private static void acts(int world) {
        Check.sentence("Each call of a method that is described as an act ... records the state that was before it");
        List<List<Integer>> want = withoutCall(world, true);
        allowed(world).forEach((name, call) -> {
            String where = "world " + world + ": " + name;
            MatchBureau one = world(world);
            int states = one.count(15);
            Check.due(where, call.applyAsInt(one) >= 0 ? 1 : 0, 1);
            Check.due(where + ": states", one.count(15), Math.min(states + 1, 4));
            List<Integer> now = told(() -> after(world, call, 0), true);
            Check.due(where + " changes something", now.equals(want.get(0)) ? 1 : 0, 0);
            for (int undone = 1; undone <= 4; undone++) {
                int times = undone;
                if (times <= states + 1) {
                    same(where + " undone " + times, told(() -> after(world, call, times), true), want.get(times - 1));
                }
            }
        });
    }

    private static void noActs(int world) {
        Check.sentence("Types, empties, keeps and tells: no act");
        List<List<Integer>> want = withoutCall(world, false);
        Map<String, ToIntFunction<MatchBureau>> calls = new LinkedHashMap<>();
        calls.put("keep()", x -> x.keep());
        calls.put("type", x -> x.type('a'));
        calls.put("clearText()", x -> x.clearText());
        calls.put("person", x -> x.person(0, 1));
        calls.put("file", x -> x.file(0, 2));
        calls.put("segment", x -> x.segment(0, 0, 6));
        calls.put("charAt", x -> x.charAt(0, 0, 0));
        calls.put("distance", x -> x.distance(0, 0, 0));
        calls.put("wordsIn", x -> x.wordsIn(0, 0));
        calls.put("allWords", x -> x.allWords(0));
        calls.put("price", x -> x.price(0, 0));
        calls.put("firstReviewer", x -> x.firstReviewer(0));
        calls.put("entry", x -> x.entry(0, 3));
        calls.put("dispute", x -> x.dispute(0, 4));
        calls.put("fileAt", x -> x.fileAt(0));
        calls.put("count", x -> x.count(8));
        int textLength = TOLD.size() - 1;
        calls.forEach((name, call) -> {
            MatchBureau one = world(world);
            int states = one.count(15);
            call.applyAsInt(one);
            Check.due("world " + world + ": " + name + ": states", one.count(15), states);
            for (int following = 0; following <= 4; following++) {
                int times = following;
                List<Integer> got = told(() -> after(world, call, times), false);
                got.set(textLength, want.get(times).get(textLength));
                same("world " + world + ": " + name + " then " + times, got, want.get(times));
            }
        });
    }
}
