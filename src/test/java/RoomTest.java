import java.lang.management.ManagementFactory;

/** A run of 512 calls may take little room: only a new object and the reading of texts make objects. */
public final class RoomTest {
    private static final int CALLS = 512;
    private static final com.sun.management.ThreadMXBean MEMORY =
        (com.sun.management.ThreadMXBean) ManagementFactory.getThreadMXBean();

    public static void main(String[] args) {
        smallRoom("undo and acts", 0);
        smallRoom("what is told", 1);
        smallRoom("readSegments", 2);
        smallRoom("remember", 3);
        smallRoom("new", 4);
        Check.finish("RoomTest");
    }

    private static long taken() {
        return MEMORY.getThreadAllocatedBytes(Thread.currentThread().getId());
    }

    private static void smallRoom(String name, int kind) {
        MatchBureau x = busy();
        play(x, kind);
        long before = taken();
        play(x, kind);
        long bytes = taken() - before;
        long[] most = {2000, 2000, CALLS * 4000L, CALLS * 700L, 100000};
        System.out.println("RoomTest: " + name + " took " + bytes + " bytes");
        Check.due(name + " takes at most " + most[kind] + " bytes", bytes <= most[kind] ? 1 : 0, 1);
    }

    private static MatchBureau busy() {
        MatchBureau x = new MatchBureau();
        x.addPerson(5);
        x.addPerson(6);
        for (int i = 0; i < 40; i++) {
            Check.entryWith(x, "a b c d e f g " + (char) ('a' + i / 26) + (char) ('a' + i % 26), 1);
        }
        for (int i = 0; i < 8; i++) {
            Check.fileWith(x, "a b.c d.e f.a b.c d.e f.a b.c d.e f.x.y.z");
        }
        x.take(0, 0);
        return x;
    }

    private static void play(MatchBureau x, int kind) {
        if (kind == 4) {
            Check.due("a new one", new MatchBureau().count(0), 0);
            return;
        }
        Check.text(x, kind == 2 ? "ab.c d.e f.a b.c d.e f.a b.c d.e f.x.y.z" : "a b c d e f g abcdefgh");
        for (int i = 0; i < CALLS; i++) {
            one(x, kind, i);
        }
    }

    private static void one(MatchBureau x, int kind, int i) {
        if (kind == 0) {
            x.swapFiles(i % 8, (i + 3) % 8);
            x.translate(0, i % 12, 1 + i % 9);
            x.withdraw(7);
            x.undo();
            x.keep();
            x.restore();
        } else if (kind == 1) {
            x.allWords(i % 6);
            x.price(i % 8, 0);
            x.segment(i % 8, i % 12, i % 7);
            x.count(i % 17);
            x.entry(i % 40, 4);
        } else if (kind == 2) {
            x.newFile();
            x.readSegments(7);
            x.undo();
        } else {
            x.remember(5);
        }
    }
}
