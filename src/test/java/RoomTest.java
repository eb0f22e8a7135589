import java.lang.management.ManagementFactory;
import java.lang.reflect.Array;
import java.lang.reflect.Field;
import java.lang.reflect.Modifier;
import java.util.Collections;
import java.util.IdentityHashMap;
import java.util.Random;
import java.util.Set;

/**
 * All calls of one run live in one room, so no call makes anything but keep() (an IMAGE, once each)
 * and join() (one row, once). The first part counts what an object holds, the second what calls make.
 */
public final class RoomTest {
    private static final Due due = new Due();

    public static void main(String[] args) throws Exception {
        held();
        made();
        anyNumbers();
        due.end();
    }

    private static void held() throws Exception {
        due.part("what is held");
        NameBoard b = new NameBoard();
        long[] fresh = size(b);
        System.out.println("a new object: " + fresh[0] + " objects and arrays, " + fresh[1] + " fields and elements");
        due.is("objects below 200", fresh[0] < 200 ? 1 : 0, 1);
        due.is("elements below 20,000", fresh[1] < 20000 ? 1 : 0, 1);
        b.place(0, 0);
        Due.name(b, "a", 0, 0);
        b.paper(0);
        Due.tape(b, "a").written();
        b.join();
        for (int k = 0; k < 3; k++) {
            b.keep(k);
        }
        long[] full = size(b);
        System.out.println("the most: " + full[0] + " objects and arrays, " + full[1] + " fields and elements");
        due.is("objects below 500", full[0] < 500 ? 1 : 0, 1);
        due.is("elements below 60,000", full[1] < 60000 ? 1 : 0, 1);
    }

    private static long[] size(Object o) throws Exception {
        long[] sum = new long[2];
        add(o, sum, Collections.newSetFromMap(new IdentityHashMap<>()));
        return sum;
    }

    private static void add(Object o, long[] sum, Set<Object> seen) throws Exception {
        if (o == null || !seen.add(o)) {
            return;
        }
        sum[0]++;
        if (o.getClass().isArray()) {
            sum[1] += Array.getLength(o);
            for (int i = 0; o instanceof Object[] && i < Array.getLength(o); i++) {
                add(Array.get(o, i), sum, seen);
            }
            return;
        }
        for (Field f : o.getClass().getDeclaredFields()) {
            if (!Modifier.isStatic(f.getModifiers())) {
                sum[1]++;
                f.setAccessible(true);
                if (!f.getType().isPrimitive()) {
                    add(f.get(o), sum, seen);
                }
            }
        }
    }

    private static void made() {
        due.part("what calls make");
        var threads = (com.sun.management.ThreadMXBean) ManagementFactory.getThreadMXBean();
        NameBoard b = new NameBoard();
        busy(b);
        // The machine may make something of its own in between, but not at each try.
        long least = Long.MAX_VALUE;
        for (int i = 0; i < 5; i++) {
            long before = threads.getCurrentThreadAllocatedBytes();
            busy(b);
            least = Math.min(least, threads.getCurrentThreadAllocatedBytes() - before);
        }
        due.is("bytes made by calls", least, 0);
    }

    /** Every call, once the rows that keep() and join() make are there. */
    private static void busy(NameBoard b) {
        for (int i = 0; i < 3; i++) {
            b.place(i * 10, i);
            b.feed(0x61626364, 0, 0, 0, 0);
            b.end(4);
            b.name(i, i, -1);
            b.part(i, i - 1);
            b.people(i, i, 10 + i);
            b.row(i, i, 12);
            b.write(i, 2, 7);
            b.paste(i, 0, i, 1, 5);
            b.counted(i);
            b.keep(i);
            b.sign(i, i);
        }
        word(b, 0x613e623b);
        b.spelling(0);
        word(b, 0x626f7468);
        b.feed(0x20696620, 0x70656f70, 0x6c653e31, 0x3b202020, 0x20202020);
        b.act();
        b.fault(0);
        for (int i = 0; i < 3; i++) {
            b.ask(i);
            b.vote(b.count(5) - 1, 3, true);
            b.close(b.count(5) - 1);
        }
        b.next(1);
        b.undo(0, 0);
        b.paper(0);
        for (int i = 0; i < 3; i++) {
            word(b, 0x61626364);
            b.written();
            b.live(i, -1, 9, 9);
            b.spell(i, 0);
            b.edits(0, i, 9);
            b.first(i, 9, 9);
            b.beside(i, 9, 9);
            b.swings(i);
            b.shown(i, 9, 9);
            b.letter(i);
            b.led(i);
            b.settled(i, i, 9, 9);
            b.signOf(i, i);
            b.anew(2);
        }
        b.join();
        b.joined(0);
        b.plan(9);
        b.planned(0);
        b.alikes(9);
        for (int i = 0; i < 13; i++) {
            b.count(i);
        }
        b.back(0);
        b.tear(0);
    }

    private static void word(NameBoard b, int four) {
        b.end(0);
        b.feed(four, 0, 0, 0, 0);
        b.end(4);
    }

    /** No call may throw, for any numbers in any state, far beyond the 512th call too. */
    private static void anyNumbers() {
        due.part("any numbers");
        Random r = new Random(7);
        int[] odd = {Integer.MIN_VALUE, Integer.MAX_VALUE, -9, -3, -2, -1, 399, 400, 500, 9999, 10000, 1000, 2001, 61, 60, 40, 80};
        for (int run = 0; run < 60; run++) {
            NameBoard b = new NameBoard();
            for (int i = 0; i < 4000; i++) {
                int[] n = new int[5];
                for (int k = 0; k < 5; k++) {
                    n[k] = r.nextInt(9) == 0 ? odd[r.nextInt(odd.length)] : r.nextInt(r.nextInt(7) == 0 ? 60 : 4);
                }
                any(b, r, r.nextInt(44), n);
            }
        }
        due.is("it came to its end", 1, 1);
    }

    private static void any(NameBoard b, Random r, int call, int[] n) {
        String text = "abcz  ;>#-after before first both if share 1 > 2 far 3 apart 4; dead 1; sign 2; votes 3; and not year = 7";
        switch (call) {
            case 0 -> b.feed(r.nextInt(), n[1], n[2], n[3], n[4]);
            case 1 -> b.end(n[0]);
            case 2 -> b.next(n[0]);
            case 3 -> b.place(n[0], n[1]);
            case 4 -> b.part(n[0], n[1]);
            case 5 -> b.people(n[0], n[1], n[2]);
            case 6 -> b.counted(n[0]);
            case 7 -> b.live(n[0], n[1], n[2], n[3]);
            case 8 -> Due.tape(b, text.substring(0, 1 + r.nextInt(4))).name(n[0], n[1], n[2]);
            case 9 -> Due.tape(b, r.nextBoolean() ? "a>b;" : piece(text, r)).spelling(n[0]);
            case 10 -> Due.tape(b, r.nextBoolean() ? "both; first 1 if year < 9;" : piece(text, r)).act();
            case 11 -> b.fault(n[0]);
            case 12 -> b.spell(n[0], n[1]);
            case 13 -> b.letter(n[0]);
            case 14 -> b.led(n[0]);
            case 15 -> b.alikes(n[0]);
            case 16 -> b.edits(n[0], n[1], n[2]);
            case 17 -> b.first(n[0], n[1], n[2]);
            case 18 -> b.beside(n[0], n[1], n[2]);
            case 19 -> b.swings(n[0]);
            case 20 -> b.ask(n[0]);
            case 21 -> b.vote(n[0], n[1], r.nextBoolean());
            case 22 -> b.close(n[0]);
            case 23 -> b.settled(n[0], n[1], n[2], n[3]);
            case 24 -> b.undo(n[0], n[1]);
            case 25 -> b.shown(n[0], n[1], n[2]);
            case 26 -> b.sign(n[0], n[1]);
            case 27 -> b.anew(n[0]);
            case 28 -> b.signOf(n[0], n[1]);
            case 29 -> b.plan(n[0]);
            case 30 -> b.planned(n[0]);
            case 31 -> b.paper(n[0]);
            case 32 -> Due.tape(b, piece("abcdefghijklmnopqrstuvwxyz", r)).written();
            case 33 -> b.join();
            case 34 -> b.joined(n[0]);
            case 35 -> b.count(n[0]);
            case 36 -> b.keep(n[0]);
            case 37 -> b.back(n[0]);
            case 38 -> b.row(n[0], n[1], n[2]);
            case 39 -> b.tear(n[0]);
            case 40 -> b.write(n[0], n[1], r.nextLong());
            case 41 -> b.paste(n[0], n[1], n[2], n[3], n[4]);
            default -> b.vote(b.count(5) - 1, n[0], true);
        }
    }

    private static String piece(String text, Random r) {
        int from = r.nextInt(text.length());
        return text.substring(from, from + r.nextInt(text.length() - from + 1));
    }
}
