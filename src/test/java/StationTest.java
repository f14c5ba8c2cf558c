import java.util.Arrays;

/** The calls of a station's side, one promise after the other; what they refuse is in BoundsTest. */
public final class StationTest {
    private static final Check check = new Check();
    private static final long P = 0x8877665544332211L;

    private static byte[] bytes(int... values) {
        byte[] row = new byte[values.length];
        for (int i = 0; i < row.length; i++) {
            row[i] = (byte) values[i];
        }
        return row;
    }

    private static byte[] tail(DoorServer door, int n) {
        int end = door.count(5);
        return Check.draft(door, end - n, end);
    }

    private static byte[] length(DoorServer door) {
        return Check.draft(door, 2, 4);
    }

    /** Promise 1. */
    private static void newObject() {
        DoorServer door = new DoorServer();
        byte[] head = bytes(1, 0, 0, 20, 0, 0, 0, 0, 0, 0, 0, 0, 90, 90, 90, 90, 90, 90, 90, 90);
        check.due("draft of a new object", Check.draft(door), head);
        for (int what = 0; what < 5; what++) {
            check.due("count(" + what + ") of a new object", door.count(what), 0);
        }
        check.due("size of a new object", door.size(), 0);
        for (int station = 0; station < 4; station++) {
            door.draft(4, 0, 0);
            door.seal(station);
            byte[] blank = bytes(4, 0, 0, 20, 0, 0, 0, 0, 0, 0, 0, 0, 0, 0, 0, 0, 0, 0, 0, 0);
            check.due("secret of station " + station, tail(door, 16), Model.md5(blank, 49 + station));
        }
        for (int user = 0; user < 32; user++) {
            check.due("no user " + user, door.user(user, 0, 1) ? 1 : 0, 1);
        }
    }

    /** Promise 2. */
    private static void secret() {
        for (int n : new int[] {1, 7, 8, 9, 40}) {
            DoorServer door = new DoorServer();
            door.secret(3, P, n);
            door.draft(4, 9, 0);
            byte[] blank = bytes(4, 9, 0, 20, 0, 0, 0, 0, 0, 0, 0, 0, 0, 0, 0, 0, 0, 0, 0, 0);
            byte[] bytes = new byte[n];
            int[] eight = {0x11 + 33, 0x22 + 33, 0x33 + 33, 0x04 + 33, 0x15 + 33, 0x26 + 33, 0x37 + 33, 0x08 + 33};
            for (int k = 0; k < n; k++) {
                bytes[k] = (byte) eight[k % 8];
            }
            door.seal(3);
            check.due("secret of " + n + " bytes", tail(door, 16), Model.md5(blank, bytes));
            door.seal(2);
            check.due("the others' stay", tail(door, 16), Model.md5(blank, 51));
        }
    }

    /** Promise 3. */
    private static void user() {
        DoorServer door = new DoorServer();
        check.due("user(0) is new", door.user(0, P, 1) ? 1 : 0, 1);
        check.due("user(31) is new", door.user(31, P, 60) ? 1 : 0, 1);
        check.due("user(31) again", door.user(31, P, 59) ? 1 : 0, 0);
        check.due("the password is the later one", logIn(door, 31, P, 59), 2);
        check.due("and not the earlier one", logIn(door, 31, P, 60), 3);
    }

    private static int logIn(DoorServer door, int user, long p, int n) {
        door.draft(1, 0, door.count(3));
        door.name(user);
        door.password(0, p, n);
        door.prove(0);
        return door.send(0);
    }

    /** Promise 4. */
    private static void draft() {
        DoorServer door = new DoorServer();
        door.put(26, 9, 9);
        door.draft(255, 0, P);
        check.due("draft(255, 0, P)", Check.draft(door), bytes(255, 0, 0, 20, 0x11, 0x22, 0x33, 0x44, 0x55, 0x66, 0x77, 0x88,
            0x11 ^ 90, 0x22 ^ 90, 0x33 ^ 90, 0x44 ^ 90, 0x55 ^ 90, 0x66 ^ 90, 0x77 ^ 90, 0x88 ^ 90));
        door.draft(0, 255, -1L);
        check.due("draft(0, 255, -1)", Check.draft(door), bytes(0, 255, 0, 20, 255, 255, 255, 255, 255, 255, 255, 255,
            165, 165, 165, 165, 165, 165, 165, 165));
    }

    /** Promise 5. */
    private static void put() {
        DoorServer door = new DoorServer();
        check.due("put(255, 3, 254)", door.put(255, 3, 254), 25);
        check.due("its bytes", tail(door, 5), bytes(255, 5, 254, 255, 0));
        check.due("put(0, 0, 0)", door.put(0, 0, 0), 27);
        check.due("its bytes", tail(door, 2), bytes(0, 2));
        door.spoil(2, 77);
        door.spoil(3, 77);
        check.due("put(9, 100, 0)", door.put(9, 100, 0), 129);
        check.due("LENGTH is put right", length(door), bytes(0, 129));
        check.due("its head", Arrays.copyOfRange(tail(door, 102), 0, 3), bytes(9, 102, 0));
        door.put(9, 100, 0);
        door.put(9, 100, 0);
        check.due("LENGTH has two bytes", length(door), bytes(1, 333 - 256));
    }

    /** Promise 6. */
    private static void number() {
        DoorServer door = new DoorServer();
        check.due("number(42, 0x01020304)", door.number(42, 0x01020304), 26);
        check.due("its bytes", tail(door, 6), bytes(42, 6, 1, 2, 3, 4));
        door.number(255, -2);
        check.due("number(255, -2)", tail(door, 6), bytes(255, 6, 255, 255, 255, 254));
    }

    /** Promise 7. */
    private static void name() {
        DoorServer door = new DoorServer();
        check.due("name(0)", door.name(0), 25);
        check.due("its bytes", tail(door, 5), bytes(1, 5, 'u', '0', '0'));
        door.name(31);
        check.due("name(31)", tail(door, 5), bytes(1, 5, 'u', '3', '1'));
        door.name(9);
        check.due("name(9)", tail(door, 5), bytes(1, 5, 'u', '0', '9'));
    }

    /** Promise 8. */
    private static void password() {
        for (int n : new int[] {1, 15, 16, 17, 32, 33, 48, 49, 60}) {
            DoorServer door = new DoorServer();
            door.secret(2, 7, 40);
            door.draft(1, 1, P);
            byte[] authenticator = Arrays.copyOfRange(Check.draft(door), 4, 20);
            int padded = (n + 15) / 16 * 16;
            check.due("password of " + n, door.password(2, P, n), 22 + padded);
            byte[] covered = Model.covered(Model.pattern(7, 40), authenticator, Model.pattern(P, n));
            check.due("password of " + n + " covered", tail(door, padded + 2), Model.join(2, padded + 2, covered));
            check.due("LENGTH", length(door), bytes(0, 22 + padded));
        }
        DoorServer door = new DoorServer();
    }

    /** Promise 9. */
    private static void hello() {
        DoorServer door = new DoorServer();
        check.due("hello(255)", door.hello(255), 27);
        check.due("its bytes", tail(door, 7), bytes(79, 7, 2, 255, 0, 5, 1));
    }

    private static void ask(DoorServer door, int number) {
        door.user(5, P, 20);
        door.draft(1, 1, 1);
        door.name(5);
        door.hello(number);
        door.prove(0);
        check.due("hello is answered by a challenge", door.send(0), 11);
    }

    /** Promise 10. */
    private static void reply() {
        DoorServer door = new DoorServer();
        check.due("reply without an answer", door.reply(P, 20), DoorServer.NONE);
        check.due("adds nothing", door.count(5), 20);
        ask(door, 255);
        byte[] challenge = Check.answer(door);
        byte[] drawn = Arrays.copyOfRange(challenge, 38, 54);
        for (int n : new int[] {1, 20, 60}) {
            door.draft(1, 2, 2);
            check.due("reply(P, " + n + ")", door.reply(P, n), 54);
            byte[] digest = Model.md5(0, Model.pattern(P, n), drawn);
            check.due("its bytes", tail(door, 34), Model.join(24, 10, bytes(0, 0, 0, 0, 0, 0, 0, 1), 79, 24, 2, 0, 0, 22, 4, 16, digest));
            check.due("LENGTH", length(door), bytes(0, 54));
        }
        door.draft(9, 0, 0);
        check.due("what is not answered leaves the last answer", door.send(0), DoorServer.OTHER);
        check.due("so there is still a reply", door.reply(P, 20), 54);
        door.draft(1, 3, 3);
        door.prove(0);
        check.due("a reject", door.send(0), 3);
        check.due("reply to a reject", door.reply(P, 20), DoorServer.NONE);
    }

    /** Promise 11. */
    private static void prove() {
        DoorServer door = new DoorServer();
        door.secret(1, P, 40);
        door.draft(1, 7, 9);
        door.name(3);
        byte[] before = Check.draft(door);
        check.due("prove(1)", door.prove(1), 43);
        byte[] blank = Model.with(Model.join(before, 80, 18, new byte[16]), 2, bytes(0, 43));
        check.due("its bytes", Check.draft(door), Model.with(blank, 27, Model.hmac(Model.pattern(P, 40), blank)));
        byte[] proved = Check.draft(door);
        check.due("prove(1) again", door.prove(1), 43);
        check.due("is the same", Check.draft(door), proved);
        door.spoil(3, 1);
        door.spoil(30, 8);
        check.due("prove(0) puts LENGTH right", door.prove(0), 43);
        check.due("and changes the PROOF", Check.draft(door), Model.with(blank, 27, Model.hmac(bytes(49), blank)));

        DoorServer two = new DoorServer();
        two.put(80, 15, 0);
        two.put(26, 0, 0);
        two.put(80, 16, 1);
        two.put(80, 16, 2);
        byte[] made = Check.draft(two);
        check.due("prove takes the first PROOF of 16 bytes", two.prove(0), made.length);
        byte[] hole = Model.with(made, 41, new byte[16]);
        check.due("and leaves the others", Check.draft(two), Model.with(made, 41, Model.hmac(bytes(49), hole)));

        DoorServer hidden = new DoorServer();
        hidden.put(26, 3, 0);
        hidden.put(80, 16, 1);
        hidden.spoil(21, 5);
        check.due("what is behind a length of 0 is not reached", hidden.prove(0), 61);
        DoorServer beyond = new DoorServer();
        beyond.put(26, 3, 0);
        beyond.put(80, 16, 1);
        beyond.spoil(21, 128);
        check.due("nor behind one that goes beyond the end", beyond.prove(0), 61);

        for (int n = 0; n <= 16; n++) {
            proofThatEndsInWhatCame(n);
        }
        DoorServer lost = new DoorServer();
        lost.put(80, 15, 1);
        lost.spoil(21, 17 ^ 36);
        byte[] whole = Model.with(Model.join(Check.draft(lost), 80, 18, new byte[16]), 2, bytes(0, 55));
        check.due("an attribute that goes beyond the end still", lost.prove(0), 55);
        check.due("the one that came is made right", Check.draft(lost), Model.with(whole, 39, Model.hmac(bytes(49), whole)));

    }

    /** A PROOF that says 18 bytes and has n + 2: where one comes behind it, it has them all, and is the first. */
    private static void proofThatEndsInWhatCame(int n) {
        DoorServer door = new DoorServer();
        door.put(80, n, 200);
        door.spoil(21, (n + 2) ^ 18);
        byte[] made = Check.draft(door);
        boolean comes = n < 16;
        byte[] longer = comes ? Model.with(Model.join(made, 80, 18, new byte[16]), 2, bytes(0, 40 + n)) : made;
        check.due("prove with " + n + " bytes of a PROOF of 16", door.prove(0), longer.length);
        byte[] hole = Model.with(longer, 22, new byte[16]);
        check.due("the first is made right then", Check.draft(door), Model.with(hole, 22, Model.hmac(bytes(49), hole)));
    }

    /** Promise 12. */
    private static void seal() {
        DoorServer door = new DoorServer();
        door.secret(1, P, 40);
        door.draft(4, 7, 9);
        door.put(44, 3, 3);
        byte[] blank = Model.with(Check.draft(door), 4, new byte[16]);
        door.spoil(2, 1);
        door.spoil(3, 1);
        door.seal(1);
        check.due("seal(1)", Check.draft(door), Model.with(blank, 4, Model.md5(blank, Model.pattern(P, 40))));
        door.seal(0);
        check.due("seal(0)", Check.draft(door), Model.with(blank, 4, Model.md5(blank, 49)));
    }

    /** Promise 13. */
    private static void spoil() {
        DoorServer door = new DoorServer();
        check.due("spoil(0, 254)", door.spoil(0, 254), 255);
        check.due("spoil(0, 0)", door.spoil(0, 0), 255);
        check.due("spoil(0, 255)", door.spoil(0, 255), 0);
        check.due("spoil(19, 90)", door.spoil(19, 90), 0);
        door.put(1, 1, 129);
        check.due("spoil(22, 1)", door.spoil(22, 1), 128);
    }

    /** Promises 15 and 16. */
    private static void answerBytes() {
        DoorServer door = new DoorServer();
        check.due("size()", door.size(), 0);
        ask(door, 1);
        check.due("size() of a challenge", door.size(), 72);
        check.due("byteAt(0)", door.byteAt(0), 11);
        check.due("byteAt(55)", door.byteAt(55), 18);
        check.due("byteAt(71)", door.byteAt(71) >= 0 ? 1 : 0, 1);
        door.draft(1, 2, 2);
        door.prove(0);
        door.send(0);
        check.due("size() of a reject", door.size(), 38);
    }

    /** Promise 17. */
    private static void ticks() {
        DoorServer door = new DoorServer();
        check.due("ticks(1)", door.ticks(1), 1);
        check.due("ticks(1000)", door.ticks(1000), 1001);
        check.due("ticks(9)", door.ticks(9), 1010);
    }

    /** Promise 18. */
    private static void count() {
        DoorServer door = new DoorServer();
        ask(door, 1);
        door.send(0);
        door.send(0);
        int[] due = {1, 1, 0, 1, 2, 50};
        for (int what = 0; what < 6; what++) {
            check.due("count(" + what + ")", door.count(what), due[what]);
        }
        door.draft(4, 1, 1);
        door.name(5);
        door.put(44, 1, 1);
        door.number(40, 1);
        door.seal(1);
        door.send(1);
        due = new int[] {2, 1, 1, 2, 2, 34};
        for (int what = 0; what < 6; what++) {
            check.due("count(" + what + ") after a packet of code 4", door.count(what), due[what]);
        }
    }

    public static void main(String[] args) {
        newObject();
        secret();
        user();
        draft();
        put();
        number();
        name();
        password();
        hello();
        reply();
        prove();
        seal();
        spoil();
        answerBytes();
        ticks();
        count();
        check.end();
    }
}
