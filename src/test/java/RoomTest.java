import java.lang.management.ManagementFactory;
import java.util.Random;

/**
 * All calls of a run live in one room, so what they make is measured: behind the first 512 calls of each
 * of the dearest kinds a run must have made no more than a small part of the room's 7.3 million elements.
 */
public final class RoomTest {
    private static final long MOST_BYTES = 2_000_000;
    private static int answers;

    public static void main(String[] args) {
        Check check = new Check("RoomTest");
        measured(0);
        for (int which = 0; which < 12; which++) {
            measured(which);
            long bytes = measured(which);
            check.due("kind " + which + " made " + bytes + " bytes, few", bytes < MOST_BYTES ? 1 : 0, 1);
        }
        check.due("answers were used", answers == Integer.MIN_VALUE ? 1 : 0, 0);
        check.close();
    }

    private static long measured(int which) {
        com.sun.management.ThreadMXBean bean = (com.sun.management.ThreadMXBean) ManagementFactory.getThreadMXBean();
        Random r = new Random(7);
        String text = "code a here;code d away if not bus and not(part or home);step 0 2 in 9 if away<possible;fine 0 [away+1]*9 quick 3";
        int[][] feeds = new int[(text.length() + 19) / 20][];
        for (int i = 0; i < feeds.length; i++) {
            feeds[i] = Texts.numbers(text, 20 * i);
        }
        long thread = Thread.currentThread().getId();
        long before = bean.getThreadAllocatedBytes(thread);
        HalfDays x = new HalfDays();
        for (int i = 0; i < 13; i++) {
            x.child(9, i % 2 == 0, i % 8, i, 99 - i);
        }
        x.school();
        x.comes(0, 0, 0);
        int called = 15;
        if (which > 0) {
            called += put(x, feeds, text.length());
            x.act(0);
        }
        for (int i = 0; i < 9; i++) {
            x.visit(i, 1 + i, 1);
            x.draw(i, i % 2, i);
            x.record(i * 1234567 % 99999999);
            x.missing(i, i);
            called += 4;
        }
        for (int i = 0; i < 150; i++) {
            x.mark(0, 0, r.nextInt(700), r.nextInt(4), 0, 0);
            called++;
        }
        while (called < 512) {
            called += one(x, which, r, feeds, text.length());
        }
        return bean.getThreadAllocatedBytes(thread) - before;
    }

    private static int put(HalfDays x, int[][] feeds, int length) {
        for (int[] n : feeds) {
            answers += x.feed(n[0], n[1], n[2], n[3], n[4]);
        }
        answers += x.end(length);
        return feeds.length + 2;
    }

    private static int one(HalfDays x, int which, Random r, int[][] feeds, int length) {
        int calls = 1;
        switch (which) {
            case 0: answers += x.child(9, false, 0, 0, 0); break;
            case 1: answers += x.rate(0, 0, 799, 399, r.nextInt(4)); break;
            case 2: answers += x.due(0, r.nextInt(2), 0, 399) + x.off(0, 9, 399); calls = 2; break;
            case 3: answers += x.join(r.nextInt(9)); break;
            case 4: answers += x.round(0, 0, 2000, 0); break;
            case 5: answers += x.helped(0); break;
            case 6: answers += x.image(r.nextInt(2)) + x.back(r.nextInt(2)); calls = 2; break;
            case 7: calls = put(x, feeds, length) + 1; answers += x.beside(0, 399); break;
            case 8: answers += x.cannot(0, 799, 399, -1); break;
            case 9: answers += x.take(0, 0, 399) + x.stands(0, 0, 399) + x.fine(0, 0, 399, 1); calls = 3; break;
            case 10: answers += x.act(0); break;
            default: answers += x.dips(r.nextInt(58), 399, 1, 0) + x.seen(0, 399, 399) + x.seal(3) + x.found(3); calls = 4; break;
        }
        return calls;
    }
}
