import java.util.ArrayList;
import java.util.List;

/** What the tests of edges share: rows of bytes, drafts of any bytes, an object with a past and a look at all of it. */
final class Bench {
    static final long P = 0x8877665544332211L;

    private Bench() { }

    /** Numbers out of bounds: the nearest on both sides, and the farthest. */
    static int[] outside(int least, int most) {
        return new int[] {least - 1, most + 1, Integer.MIN_VALUE, Integer.MAX_VALUE};
    }

    static byte[] bytes(int... values) {
        byte[] row = new byte[values.length];
        for (int i = 0; i < row.length; i++) {
            row[i] = (byte) values[i];
        }
        return row;
    }

    /** n bytes, b and what follows it. */
    static byte[] row(int n, int b) {
        byte[] row = new byte[n];
        for (int i = 0; i < n; i++) {
            row[i] = (byte) (b + i);
        }
        return row;
    }

    static byte[] attribute(int type, Object... value) {
        byte[] bytes = Model.join(value);
        return Model.join(type, bytes.length + 2, bytes);
    }

    static byte[] nameOf(int user) {
        return attribute(1, (int) 'u', '0' + user / 10, '0' + user % 10);
    }

    static byte[] big(long v, int n) {
        byte[] row = new byte[n];
        for (int i = 0; i < n; i++) {
            row[n - 1 - i] = (byte) (v >> 8 * i);
        }
        return row;
    }

    /** Puts any bytes at the draft's end, well formed or not: 2 or more, or none. Few calls do for one attribute. */
    static void attach(DoorServer door, Object... parts) {
        byte[] wanted = Model.join(parts);
        for (int done = 0; done < wanted.length; ) {
            int taken = nextTaken(wanted.length - done);
            int b = taken > 2 ? wanted[done + 2] & 255 : 0;
            int at = door.put(wanted[done] & 255, taken - 2, b) - taken;
            for (int i = 1; i < taken; i++) {
                int is = i == 1 ? taken : b + i - 2 & 255;
                int due = wanted[done + i] & 255;
                if (is != due) {
                    door.spoil(at + i, is ^ due);
                }
            }
            done += taken;
        }
    }

    /** How many bytes the next attribute takes where some are left to be put: never so many that 1 stays. */
    private static int nextTaken(int left) {
        return left <= 102 ? left : Math.min(102, left - 2);
    }

    /** Attributes of n bytes in all that count for nothing; n is not 1. */
    static byte[] filling(int n) {
        byte[] all = new byte[0];
        while (all.length < n) {
            all = Model.join(all, attribute(26, row(nextTaken(n - all.length) - 2, 0)));
        }
        return all;
    }

    /** Brings the draft to n bytes by filling(). */
    static void fill(DoorServer door, int n) {
        int left = n - door.count(5);
        while (left > 0) {
            int taken = nextTaken(left);
            door.put(26, taken - 2, 0);
            left -= taken;
        }
    }

    static DoorServer filled(int n) {
        DoorServer door = new DoorServer();
        fill(door, n);
        return door;
    }

    static int proved(DoorServer door, int station) {
        door.prove(station);
        return door.send(station);
    }

    static int sealed(DoorServer door, int station) {
        door.seal(station);
        return door.send(station);
    }

    static DoorServer withUsers() {
        DoorServer door = new DoorServer();
        door.user(0, P, 9);
        door.user(31, P, 60);
        return door;
    }

    static int ask(DoorServer door, int station, int user, int identifier, int number) {
        door.draft(1, identifier, 1);
        door.name(user);
        door.hello(number);
        return proved(door, station);
    }

    static int use(DoorServer door, int station, int identifier, byte[] session, int status, byte[]... more) {
        door.draft(4, identifier, 0);
        door.name(identifier % 32);
        attach(door, attribute(44, session));
        door.number(40, status);
        for (byte[] attribute : more) {
            attach(door, attribute);
        }
        return sealed(door, station);
    }

    /** An object that has something in every part of its state; its last answer is a CHALLENGE. */
    static DoorServer lived() {
        DoorServer door = withUsers();
        door.secret(1, P, 40);
        door.ticks(77);
        use(door, 0, 1, bytes(5), 1);
        use(door, 3, 2, row(16, 5), 2, attribute(42, big(-1, 4)));
        door.draft(1, 3, 3);
        door.name(0);
        door.password(1, P, 9);
        proved(door, 1);
        door.ticks(5);
        ask(door, 0, 31, 4, 255);
        door.draft(1, 5, 5);
        door.name(31);
        return door;
    }

    /** Brings to light what lived() left, in fewer calls than an object is used for; it changes the object. */
    static List<Long> allOf(DoorServer door) {
        List<Long> seen = new ArrayList<>();
        for (int what = 0; what < 6; what++) {
            seen.add((long) door.count(what));
        }
        seeAnswer(door, seen, 0, door.size());
        for (int k = 0; k < door.count(2); k++) {
            for (int what = 0; what < 9; what++) {
                seen.add(door.record(k, what));
            }
        }
        seeDraft(door, seen, 0, 20);
        // The digest stands for the rest of the draft, which may be too long to be read byte by byte.
        door.seal(2);
        seeDraft(door, seen, 2, 20);
        seeTrial(door, seen);
        seeKept(door, seen);
        for (int station = 0; station < 4; station++) {
            door.draft(4, 0, 0);
            door.seal(station);
            seeDraft(door, seen, 4, 8);
        }
        seen.add((long) ask(door, 0, 0, 11, 1));
        seeAnswer(door, seen, 20, 54);
        seen.add((long) door.ticks(1));
        for (int user = 0; user < 32; user++) {
            seen.add(door.user(user, 0, 1) ? 1L : 0L);
        }
        return seen;
    }

    private static void seeAnswer(DoorServer door, List<Long> seen, int from, int to) {
        seen.add((long) door.size());
        for (int i = from; i < Math.min(to, door.size()); i++) {
            seen.add((long) door.byteAt(i));
        }
    }

    private static void seeDraft(DoorServer door, List<Long> seen, int from, int to) {
        for (int i = from; i < to; i++) {
            seen.add((long) door.spoil(i, 0));
        }
    }

    private static void seeTrial(DoorServer door, List<Long> seen) {
        door.draft(1, 9, 9);
        door.name(31);
        seen.add((long) door.reply(P, 60));
        seen.add((long) proved(door, 0));
        seen.add((long) door.count(1));
        seeAnswer(door, seen, 4, 8);
    }

    private static void seeKept(DoorServer door, List<Long> seen) {
        for (int identifier = 3; identifier <= 10; identifier += 7) {
            door.draft(1, identifier, 3);
            door.name(0);
            door.password(1, P, 9);
            seen.add((long) proved(door, 1));
            seen.add((long) door.count(4));
            seeAnswer(door, seen, 4, 8);
        }
    }
}
