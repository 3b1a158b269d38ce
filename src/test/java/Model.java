import java.util.ArrayDeque;
import java.util.ArrayList;
import java.util.Arrays;
import java.util.Deque;
import java.util.List;

/** The document a second time, written for plainness alone: texts for segments, states copied whole. */
final class Model {
    static final int UNKNOWN = -1;
    static final int BAD = -2;
    static final int FULL = -3;
    static final int NOT = -4;
    static final int NONE = -5;

    private static final class Piece {
        String text;
        int target = NONE;
        int way = 0;
    }

    private static final class Job {
        String state = "open";
        int translator = NONE;
        int reviewer = NONE;
        int price = NONE;
        int rejected = 0;
        List<Piece> pieces = new ArrayList<>();

        boolean inHand() {
            return state.equals("open") || state.equals("taken") || state.equals("review");
        }

        int words() {
            return pieces.stream().mapToInt(p -> p.text.split(" ").length).sum();
        }
    }

    private static final class Remembered {
        String text;
        int target;
        boolean settled;
    }

    private static final class Quarrel {
        int entry;
        int[] targets;
        int chosen = NONE;
    }

    private static final class Worker {
        int rate;
        boolean[] barred = new boolean[6];
        int lastReviewer = NONE;
    }

    private static final class World {
        int[] shares = {10, 20, 40, 60, 80, 100};
        List<Worker> workers = new ArrayList<>();
        List<Job> jobs = new ArrayList<>();
        List<Integer> order = new ArrayList<>();
        List<Remembered> memory = new ArrayList<>();
        List<Quarrel> quarrels = new ArrayList<>();

        World copy() {
            World copy = new World();
            copy.shares = shares.clone();
            copy.order = new ArrayList<>(order);
            for (Worker w : workers) {
                Worker c = new Worker();
                c.rate = w.rate;
                c.barred = w.barred.clone();
                c.lastReviewer = w.lastReviewer;
                copy.workers.add(c);
            }
            for (Job j : jobs) {
                Job c = new Job();
                c.state = j.state;
                c.translator = j.translator;
                c.reviewer = j.reviewer;
                c.price = j.price;
                c.rejected = j.rejected;
                for (Piece p : j.pieces) {
                    Piece d = new Piece();
                    d.text = p.text;
                    d.target = p.target;
                    d.way = p.way;
                    c.pieces.add(d);
                }
                copy.jobs.add(c);
            }
            for (Remembered r : memory) {
                Remembered c = new Remembered();
                c.text = r.text;
                c.target = r.target;
                c.settled = r.settled;
                copy.memory.add(c);
            }
            for (Quarrel q : quarrels) {
                Quarrel c = new Quarrel();
                c.entry = q.entry;
                c.targets = q.targets.clone();
                c.chosen = q.chosen;
                copy.quarrels.add(c);
            }
            return copy;
        }
    }

    private World w = new World();
    private World kept = null;
    private final Deque<World> history = new ArrayDeque<>();
    private String text = "";

    private void act() {
        history.addLast(w.copy());
        if (history.size() > 4) {
            history.removeFirst();
        }
    }

    private boolean person(int p) {
        return 0 <= p && p < w.workers.size();
    }

    private boolean file(int f) {
        return 0 <= f && f < w.jobs.size();
    }

    private boolean piece(int f, int s) {
        return file(f) && 0 <= s && s < w.jobs.get(f).pieces.size();
    }

    int addPerson(int rate) {
        if (rate < 1 || rate > 50) {
            return BAD;
        }
        if (w.workers.size() == 6) {
            return FULL;
        }
        act();
        Worker worker = new Worker();
        worker.rate = rate;
        w.workers.add(worker);
        return w.workers.size() - 1;
    }

    int bar(int p, int o, boolean is) {
        if (!person(p) || !person(o)) {
            return UNKNOWN;
        }
        if (p == o) {
            return BAD;
        }
        if (w.workers.get(p).barred[o] == is) {
            return NONE;
        }
        act();
        w.workers.get(p).barred[o] = is;
        w.workers.get(o).barred[p] = is;
        int n = 0;
        for (boolean b : w.workers.get(p).barred) {
            n += b ? 1 : 0;
        }
        return n;
    }

    int setShare(int band, int percent) {
        if (band < 0 || band > 5 || percent < 0 || percent > 100) {
            return BAD;
        }
        int was = w.shares[band];
        if (was == percent) {
            return NONE;
        }
        act();
        w.shares[band] = percent;
        return was;
    }

    int type(char c) {
        if (text.length() == 60) {
            return FULL;
        }
        text += c;
        return text.length();
    }

    int clearText() {
        int was = text.length();
        text = "";
        return was;
    }

    /** The longest start of the text that can be gone on with to a text of segments, or -1 for a whole one. */
    private int fault() {
        String word = "[a-z]{1,8}";
        String segment = word + "( " + word + "){0,7}";
        if (text.matches(segment + "(\\." + segment + ")*")) {
            return -1;
        }
        for (int end = 1; end <= text.length(); end++) {
            if (!canGoOn(text.substring(0, end))) {
                return end - 1;
            }
        }
        return text.length();
    }

    private static boolean canGoOn(String start) {
        String word = "[a-z]{1,8}";
        String segment = word + "( " + word + "){0,7}";
        String whole = segment + "(\\." + segment + ")*";
        return start.matches(whole) || (start + "a").matches(whole);
    }

    int newFile() {
        if (w.jobs.size() == 8) {
            return FULL;
        }
        act();
        w.jobs.add(new Job());
        w.order.add(w.jobs.size() - 1);
        return w.jobs.size() - 1;
    }

    int readSegments(int f) {
        if (!file(f)) {
            return UNKNOWN;
        }
        if (fault() >= 0) {
            return -100 - fault();
        }
        Job job = w.jobs.get(f);
        if (!job.state.equals("open")) {
            return NOT;
        }
        String[] parts = text.split("\\.");
        if (job.pieces.size() + parts.length > 12) {
            return FULL;
        }
        act();
        for (String part : parts) {
            Piece p = new Piece();
            p.text = part;
            job.pieces.add(p);
        }
        return job.pieces.size();
    }

    private int alike(String segment) {
        for (int i = 0; i < w.memory.size(); i++) {
            if (w.memory.get(i).text.equals(segment)) {
                return i;
            }
        }
        return NONE;
    }

    private void memorize(String segment, int target) {
        Remembered r = new Remembered();
        r.text = segment;
        r.target = target;
        w.memory.add(r);
    }

    int remember(int target) {
        if (fault() >= 0) {
            return -100 - fault();
        }
        if (target < 1 || target > 999 || text.contains(".")) {
            return BAD;
        }
        if (alike(text) != NONE) {
            return NOT;
        }
        if (w.memory.size() == 40) {
            return FULL;
        }
        act();
        memorize(text, target);
        return w.memory.size() - 1;
    }

    int swapFiles(int f, int o) {
        if (!file(f) || !file(o)) {
            return UNKNOWN;
        }
        if (f == o) {
            return NONE;
        }
        act();
        int a = w.order.indexOf(f);
        int b = w.order.indexOf(o);
        w.order.set(a, o);
        w.order.set(b, f);
        return b;
    }

    private static int targets(Job job) {
        return (int) job.pieces.stream().filter(p -> p.target != NONE).count();
    }

    int withdraw(int f) {
        if (!file(f)) {
            return UNKNOWN;
        }
        if (!w.jobs.get(f).inHand()) {
            return NOT;
        }
        act();
        w.jobs.get(f).state = "withdrawn";
        return targets(w.jobs.get(f));
    }

    int take(int f, int p) {
        if (!file(f) || !person(p)) {
            return UNKNOWN;
        }
        Job job = w.jobs.get(f);
        if (!job.state.equals("open") || job.pieces.isEmpty()) {
            return NOT;
        }
        int price = price(f, p);
        act();
        job.state = "taken";
        job.translator = p;
        job.price = price;
        for (Piece piece : job.pieces) {
            if (piece.target == NONE && match(piece.text) == 100) {
                piece.target = w.memory.get(bestEntry(piece.text)).target;
                piece.way = 3;
            }
        }
        return price;
    }

    private int openQuarrel(int entry) {
        for (int i = 0; i < w.quarrels.size(); i++) {
            if (w.quarrels.get(i).entry == entry && w.quarrels.get(i).chosen == NONE) {
                return i;
            }
        }
        return NONE;
    }

    int translate(int f, int s, int target) {
        if (!piece(f, s)) {
            return UNKNOWN;
        }
        if (target < 1 || target > 999) {
            return BAD;
        }
        Job job = w.jobs.get(f);
        Piece piece = job.pieces.get(s);
        int entry = alike(piece.text);
        Remembered r = entry == NONE ? null : w.memory.get(entry);
        if (!job.state.equals("taken") || r != null && r.settled && r.target != target) {
            return NOT;
        }
        if (piece.target == target) {
            return NONE;
        }
        boolean quarrel = r != null && r.target != target && openQuarrel(entry) == NONE;
        if (r == null && w.memory.size() == 40 || quarrel && w.quarrels.size() == 10) {
            return FULL;
        }
        act();
        piece.target = target;
        piece.way = 1;
        if (r == null) {
            memorize(piece.text, target);
        }
        if (quarrel) {
            Quarrel q = new Quarrel();
            q.entry = entry;
            q.targets = new int[] {r.target, target};
            w.quarrels.add(q);
        }
        int got = 1;
        for (Job other : w.jobs) {
            for (Piece p : other.pieces) {
                if (other.state.equals("taken") && p.text.equals(piece.text) && p.target == NONE) {
                    p.target = target;
                    p.way = 2;
                    got++;
                }
            }
        }
        return got;
    }

    private boolean mayReview(Job job, int p) {
        if (!job.state.equals("taken") || p == job.translator) {
            return false;
        }
        Worker translator = w.workers.get(job.translator);
        return !translator.barred[p] && translator.lastReviewer != p;
    }

    int review(int f, int p) {
        if (!file(f) || !person(p)) {
            return UNKNOWN;
        }
        Job job = w.jobs.get(f);
        if (!job.state.equals("taken") || targets(job) < job.pieces.size() || !mayReview(job, p)) {
            return NOT;
        }
        for (Piece piece : job.pieces) {
            if (openQuarrel(alike(piece.text)) != NONE) {
                return NOT;
            }
        }
        act();
        job.state = "review";
        job.reviewer = p;
        w.workers.get(job.translator).lastReviewer = p;
        return (int) job.pieces.stream().filter(x -> x.way == 1).count();
    }

    int reject(int f, int s) {
        if (!piece(f, s)) {
            return UNKNOWN;
        }
        Job job = w.jobs.get(f);
        if (!job.state.equals("review")) {
            return NOT;
        }
        act();
        job.pieces.get(s).target = NONE;
        job.pieces.get(s).way = 0;
        job.state = "taken";
        job.reviewer = NONE;
        job.rejected++;
        return job.rejected;
    }

    int deliver(int f) {
        if (!file(f)) {
            return UNKNOWN;
        }
        Job job = w.jobs.get(f);
        if (!job.state.equals("review")) {
            return NOT;
        }
        act();
        job.state = "delivered";
        return job.price + 2 * job.words();
    }

    int settle(int d, int which) {
        if (d < 0 || d >= w.quarrels.size()) {
            return UNKNOWN;
        }
        if (which < 0 || which > 1) {
            return BAD;
        }
        Quarrel q = w.quarrels.get(d);
        if (q.chosen != NONE) {
            return NOT;
        }
        act();
        q.chosen = q.targets[which];
        Remembered r = w.memory.get(q.entry);
        r.target = q.chosen;
        r.settled = true;
        int got = 0;
        for (Job job : w.jobs) {
            for (Piece p : job.pieces) {
                if (job.inHand() && p.text.equals(r.text) && p.target != NONE && p.target != q.chosen) {
                    p.target = q.chosen;
                    p.way = 4;
                    got++;
                }
            }
        }
        return got;
    }

    int undo() {
        if (history.isEmpty()) {
            return NONE;
        }
        w = history.removeLast();
        return history.size();
    }

    int keep() {
        kept = w.copy();
        return w.jobs.size();
    }

    int restore() {
        if (kept == null) {
            return NONE;
        }
        act();
        w = kept.copy();
        return w.jobs.size();
    }

    int person(int p, int what) {
        if (!person(p)) {
            return UNKNOWN;
        }
        Worker worker = w.workers.get(p);
        int[] told = new int[8];
        told[0] = worker.rate;
        for (int o = 0; o < 6; o++) {
            told[1] += worker.barred[o] ? 1 << o : 0;
        }
        for (Job job : w.jobs) {
            boolean done = job.state.equals("delivered");
            boolean mine = job.translator == p;
            boolean read = job.reviewer == p;
            told[2] += mine && (job.state.equals("taken") || job.state.equals("review")) ? 1 : 0;
            told[3] += read && job.state.equals("review") ? 1 : 0;
            told[4] += mine && done ? job.words() : 0;
            told[5] += read && done ? job.words() : 0;
            told[6] += mine && done ? job.price : 0;
            told[6] += read && done ? 2 * job.words() : 0;
        }
        told[7] = worker.lastReviewer;
        return what < 0 || what > 7 ? BAD : told[what];
    }

    int file(int f, int what) {
        if (!file(f)) {
            return UNKNOWN;
        }
        Job job = w.jobs.get(f);
        int state = Arrays.asList("open", "taken", "review", "delivered", "withdrawn").indexOf(job.state);
        int cost = state >= 1 && state <= 3 ? job.price : 0;
        cost += state == 3 ? 2 * job.words() : 0;
        int[] told = {state, job.pieces.size(), job.words(), w.order.indexOf(f), job.translator,
            job.reviewer, state == 4 ? NONE : job.price, cost, job.pieces.size() - targets(job), job.rejected};
        return what < 0 || what > 9 ? BAD : told[what];
    }

    private static int distance(String[] one, String[] other) {
        int[][] d = new int[one.length + 1][other.length + 1];
        for (int i = 0; i <= one.length; i++) {
            for (int j = 0; j <= other.length; j++) {
                if (i == 0 || j == 0) {
                    d[i][j] = i + j;
                } else if (one[i - 1].equals(other[j - 1])) {
                    d[i][j] = d[i - 1][j - 1];
                } else {
                    d[i][j] = 1 + Math.min(d[i - 1][j - 1], Math.min(d[i - 1][j], d[i][j - 1]));
                }
            }
        }
        return d[one.length][other.length];
    }

    private static int match(String one, String other) {
        String[] a = one.split(" ");
        String[] b = other.split(" ");
        int n = Math.max(a.length, b.length);
        return 100 * (n - distance(a, b)) / n;
    }

    private int match(String segment) {
        return w.memory.stream().mapToInt(r -> match(segment, r.text)).max().orElse(0);
    }

    private int bestEntry(String segment) {
        int match = match(segment);
        for (int i = 0; match > 0 && i < w.memory.size(); i++) {
            if (match(segment, w.memory.get(i).text) == match) {
                return i;
            }
        }
        return NONE;
    }

    /** Goes over all segments of files in hand in their order and remembers the last alike one. */
    private int repeat(int f, int s) {
        if (!w.jobs.get(f).inHand()) {
            return NONE;
        }
        int last = NONE;
        for (int g : w.order) {
            for (int t = 0; w.jobs.get(g).inHand() && t < w.jobs.get(g).pieces.size(); t++) {
                if (g == f && t == s) {
                    return last;
                }
                if (w.jobs.get(g).pieces.get(t).text.equals(w.jobs.get(f).pieces.get(s).text)) {
                    last = 100 * g + t;
                }
            }
        }
        return last;
    }

    private int band(int f, int s) {
        if (!w.jobs.get(f).inHand()) {
            return NONE;
        }
        if (repeat(f, s) != NONE) {
            return 0;
        }
        int match = match(w.jobs.get(f).pieces.get(s).text);
        return match == 100 ? 1 : match >= 85 ? 2 : match >= 75 ? 3 : match >= 50 ? 4 : 5;
    }

    int segment(int f, int s, int what) {
        if (!piece(f, s)) {
            return UNKNOWN;
        }
        Piece p = w.jobs.get(f).pieces.get(s);
        switch (what) {
            case 0: return p.text.split(" ").length;
            case 1: return p.target;
            case 2: return p.way;
            case 3: return match(p.text);
            case 4: return bestEntry(p.text);
            case 5: return band(f, s);
            case 6: return repeat(f, s);
            default: return BAD;
        }
    }

    int charAt(int f, int s, int index) {
        if (!piece(f, s)) {
            return UNKNOWN;
        }
        String segment = w.jobs.get(f).pieces.get(s).text;
        return index < 0 ? BAD : index < segment.length() ? segment.charAt(index) : NONE;
    }

    int distance(int f, int s, int e) {
        if (!piece(f, s) || e < 0 || e >= w.memory.size()) {
            return UNKNOWN;
        }
        return distance(w.jobs.get(f).pieces.get(s).text.split(" "), w.memory.get(e).text.split(" "));
    }

    int wordsIn(int f, int band) {
        if (!file(f)) {
            return UNKNOWN;
        }
        if (band < 0 || band > 5) {
            return BAD;
        }
        if (!w.jobs.get(f).inHand()) {
            return NONE;
        }
        int words = 0;
        for (int s = 0; s < w.jobs.get(f).pieces.size(); s++) {
            words += band(f, s) == band ? segment(f, s, 0) : 0;
        }
        return words;
    }

    int allWords(int band) {
        if (band < 0 || band > 5) {
            return BAD;
        }
        int words = 0;
        for (int f = 0; f < w.jobs.size(); f++) {
            words += Math.max(0, wordsIn(f, band));
        }
        return words;
    }

    int price(int f, int p) {
        if (!file(f) || !person(p)) {
            return UNKNOWN;
        }
        if (!w.jobs.get(f).inHand()) {
            return NONE;
        }
        int sum = 0;
        for (int band = 0; band <= 5; band++) {
            sum += wordsIn(f, band) * w.workers.get(p).rate * w.shares[band] / 100;
        }
        return sum;
    }

    int firstReviewer(int f) {
        if (!file(f)) {
            return UNKNOWN;
        }
        for (int p = 0; p < w.workers.size(); p++) {
            if (mayReview(w.jobs.get(f), p)) {
                return p;
            }
        }
        return NONE;
    }

    int entry(int e, int what) {
        if (e < 0 || e >= w.memory.size()) {
            return UNKNOWN;
        }
        Remembered r = w.memory.get(e);
        int alike = 0;
        for (Job job : w.jobs) {
            for (Piece p : job.pieces) {
                alike += job.inHand() && p.text.equals(r.text) ? 1 : 0;
            }
        }
        int[] told = {r.text.split(" ").length, r.target, r.settled ? 1 : 0, openQuarrel(e), alike};
        return what < 0 || what > 4 ? BAD : told[what];
    }

    int dispute(int d, int what) {
        if (d < 0 || d >= w.quarrels.size()) {
            return UNKNOWN;
        }
        Quarrel q = w.quarrels.get(d);
        int[] told = {q.entry, q.targets[0], q.targets[1], q.chosen == NONE ? 0 : 1, q.chosen};
        return what < 0 || what > 4 ? BAD : told[what];
    }

    int fileAt(int place) {
        return place < 0 ? BAD : place < w.order.size() ? w.order.get(place) : NONE;
    }

    int count(int what) {
        int[] told = new int[17];
        told[0] = w.jobs.size();
        told[2] = w.workers.size();
        told[3] = w.memory.size();
        told[4] = w.quarrels.size();
        told[5] = (int) w.quarrels.stream().filter(q -> q.chosen == NONE).count();
        for (Job job : w.jobs) {
            told[1] += job.inHand() ? 1 : 0;
            told[6] += job.inHand() ? job.words() : 0;
            told[7] += job.state.equals("delivered") ? job.words() : 0;
            told[9] += job.inHand() ? job.pieces.size() - targets(job) : 0;
            for (Piece p : job.pieces) {
                told[10 + p.way]++;
            }
        }
        for (int p = 0; p < w.workers.size(); p++) {
            told[8] += person(p, 6);
        }
        told[15] = history.size();
        told[16] = text.length();
        return what < 0 || what > 16 ? BAD : told[what];
    }
}
