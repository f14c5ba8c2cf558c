import java.util.Arrays;

/**
 * Each sentence with a bound on what the server lets in, keeps and writes down: names, passwords, talks, trials,
 * answers, records. On the bound, just below it and just above it; the sentence stands above its test.
 */
public final class LimitsTest {
    private static final Check check = new Check();
    private static final long P = Bench.P;
    private static final byte[] PASSWORD_31 = Model.pattern(P, 60);

    /** The last answer has a code and attributes, and the digests that its request wants; the draft is still that. */
    private static void dueAnswer(String what, DoorServer door, int code, byte[] attributes) {
        byte[] asked = Check.draft(door, 4, 20);
        int n = 38 + attributes.length;
        byte[] due = Model.join(code, door.spoil(1, 0), 0, n, asked, attributes, Bench.attribute(80, new byte[16]));
        due = Model.with(due, n - 16, Model.hmac(Bench.bytes(49), due));
        check.due(what, Check.answer(door), Model.with(due, 4, Model.md5(due, 49)));
    }

    private static void dueReject(String what, DoorServer door, int number) {
        dueAnswer(what, door, 3, number < 0 ? new byte[0] : Bench.attribute(79, 4, number, 0, 4));
    }

    /** A user that was told asks by any attributes, from station 0. */
    private static int asks(DoorServer door, int identifier, byte[]... attributes) {
        door.draft(1, identifier, 1);
        door.name(31);
        for (byte[] attribute : attributes) {
            Bench.attach(door, (Object) attribute);
        }
        return Bench.proved(door, 0);
    }

    private static byte[] drawn(DoorServer door) {
        return Check.answer(door, 38, 54);
    }

    private static byte[] state(long mark) {
        return Bench.attribute(24, Bench.big(mark, 8));
    }

    private static byte[] good(int number, byte[] drawn) {
        return Bench.attribute(79, 2, number, 0, 22, 4, 16, Model.md5(number, PASSWORD_31, drawn));
    }

    /** "A user's NAME is the letter u, and its number in two digits." */
    private static void names() {
        String[] good = {"u00", "u01", "u09", "u10", "u19", "u20", "u30", "u31"};
        String[] bad = {"u", "u0", "u1", "u000", "u031", "u310", "u32", "u33", "u40", "u99", "t00", "v00", "U00", "\0u00",
            "u0/", "u0:", "u/0", "u:0", "u1:", "u2:", "u3/", "u/9", "u0\0", "u00\0", "u 0", "u-1", "u+1", "00", "000"};
        for (String name : good) {
            dueNamed(name, 2);
        }
        for (String name : bad) {
            dueNamed(name, 3);
        }
    }

    private static void dueNamed(String name, int due) {
        DoorServer door = new DoorServer();
        for (int user = 0; user < 32; user++) {
            door.user(user, P, 9);
        }
        byte[] bytes = name.getBytes(java.nio.charset.StandardCharsets.ISO_8859_1);
        Bench.attach(door, (Object) Bench.attribute(1, bytes));
        door.password(0, P, 9);
        check.due("NAME " + Arrays.toString(bytes), Bench.proved(door, 0), due);
    }

    /** "without NAME, or if that is of no user that was told: REJECT." */
    private static void toldUsers() {
        DoorServer door = new DoorServer();
        door.user(30, P, 9);
        for (int user = 29; user <= 31; user++) {
            door.draft(1, user, 1);
            door.name(user);
            door.password(0, P, 9);
            check.due("user " + user, Bench.proved(door, 0), user == 30 ? 2 : 3);
            dueAnswer("without TALK", door, user == 30 ? 2 : 3, new byte[0]);
            door.draft(1, user, 2);
            door.name(user);
            door.hello(9);
            check.due("user " + user + " by a talk", Bench.proved(door, 0), user == 30 ? 11 : 3);
            if (user != 30) {
                dueReject("of one that was not told", door, -1);
            }
        }
        door.draft(1, 50, 1);
        door.password(0, P, 9);
        check.due("without NAME", Bench.proved(door, 0), 3);
        dueReject("without NAME", door, -1);
        door.draft(1, 51, 1);
        door.hello(9);
        check.due("a talk without NAME", Bench.proved(door, 0), 3);
        dueReject("a talk without NAME", door, -1);
        check.due("trials", door.count(1), 1);
    }

    /** "uncovered, its bytes up to the last one that is not 0 must be those of the user's password". */
    private static void uncovered() {
        for (int n : new int[] {1, 2, 15, 16, 17, 31, 32, 33, 47, 48, 49, 59, 60}) {
            byte[] password = Model.pattern(P, n);
            for (int padded = 16; padded <= 64; padded += 16) {
                if (padded >= n) {
                    duePlain("a password of " + n + " in " + padded, n, Arrays.copyOf(password, padded), 2);
                }
            }
            int least = (n + 15) / 16 * 16;
            byte[] plain = Arrays.copyOf(password, least);
            duePlain("another first byte of " + n, n, Model.with(plain, 0, Bench.bytes(plain[0] ^ 1)), 3);
            duePlain("another last byte of " + n, n, Model.with(plain, n - 1, Bench.bytes(plain[n - 1] ^ 1)), 3);
            duePlain("a last byte 0 of " + n, n, Model.with(plain, n - 1, Bench.bytes(0)), 3);
            duePlain("all 0 of " + n, n, new byte[least], 3);
            byte[] longest = Arrays.copyOf(password, 64);
            duePlain("one byte more than " + n, n, Model.with(longest, n, Bench.bytes(1)), 3);
            duePlain("a last of 64 behind " + n, n, Model.with(longest, 63, Bench.bytes(1)), 3);
        }
    }

    private static void duePlain(String what, int n, byte[] plain, int due) {
        DoorServer door = new DoorServer();
        door.user(31, P, n);
        door.name(31);
        byte[] authenticator = Arrays.copyOfRange(Check.draft(door), 4, 20);
        Bench.attach(door, (Object) Bench.attribute(2, Model.covered(Bench.bytes(49), authenticator, plain)));
        check.due(what, Bench.proved(door, 0), due);
        dueAnswer(what, door, due, new byte[0]);
    }

    /** "Without, with TALK: as below. Without both: REJECT." and "Each REJECT to a packet with TALK and without PASSWORD". */
    private static void passwordAndTalk() {
        DoorServer door = Bench.withUsers();
        for (int n = 59; n <= 60; n++) {
            door.draft(1, n, 1);
            door.hello(7);
            door.name(31);
            door.password(0, P, n);
            check.due("PASSWORD goes before TALK", Bench.proved(door, 0), n == 60 ? 2 : 3);
            dueAnswer("and TALK is not answered", door, n == 60 ? 2 : 3, new byte[0]);
        }
        check.due("no trial", door.count(1), 0);
        check.due("without both", asks(door, 1), 3);
        dueReject("without both", door, -1);
        check.due("with STATE alone", asks(door, 2, state(1)), 3);
        dueReject("with STATE alone", door, -1);
    }

    /** "When these are not as many as the value has .. REJECT." */
    private static void talkBytes() {
        for (int n : new int[] {5, 6, 99, 100}) {
            for (int says : new int[] {n - 1, n, n + 1, n + 256, 256 * n, 0, 65535}) {
                DoorServer door = Bench.withUsers();
                byte[] talk = Model.join(2, 9, says >> 8 & 255, says & 255, 1, new byte[n - 5]);
                check.due("TALK of " + n + " that says " + says, asks(door, 1, Bench.attribute(79, talk)), says == n ? 11 : 3);
                if (says != n) {
                    dueReject("TALK of " + n + " that says " + says, door, 9);
                }
            }
        }
    }

    /** "its code is not 2 .. REJECT." */
    private static void talkCode() {
        for (int code : new int[] {0, 1, 2, 3, 4, 130, 255}) {
            DoorServer door = Bench.withUsers();
            check.due("TALK of code " + code, asks(door, 1, Bench.attribute(79, code, 255, 0, 5, 1)), code == 2 ? 11 : 3);
            if (code != 2) {
                dueReject("TALK of code " + code, door, 255);
            }
            check.due("trials", door.count(1), code == 2 ? 1 : 0);
        }
    }

    /** "or it has less than 5 bytes: REJECT." */
    private static void shortTalk() {
        DoorServer door = Bench.withUsers();
        check.due("TALK of 4", asks(door, 1, Bench.attribute(79, 2, 9, 0, 4)), 3);
        dueReject("TALK of 4", door, 9);
        check.due("TALK of 4 that says 5", asks(door, 2, Bench.attribute(79, 2, 9, 0, 5)), 3);
        dueReject("TALK of 4 that says 5", door, 9);
        // What follows in the packet is not the talk's: its first byte would be a kind.
        check.due("TALK of 4, type 1 behind it", asks(door, 3, Bench.attribute(79, 2, 9, 0, 4), Bench.attribute(26, 1)), 3);
        door.draft(1, 4, 1);
        door.put(79, 4, 0);
        door.spoil(22, 2);
        door.spoil(24, 2);
        door.spoil(25, 3 ^ 4);
        door.name(31);
        check.due("TALK of 4, NAME behind it", Bench.proved(door, 0), 3);
        dueReject("TALK of 4, NAME behind it", door, 1);
        check.due("trials", door.count(1), 0);
        check.due("TALK of 5", asks(door, 5, Bench.attribute(79, 2, 9, 0, 5, 1)), 11);
        check.due("trials", door.count(1), 1);
    }

    /** "Any other kind: REJECT." */
    private static void talkKinds() {
        for (int kind : new int[] {0, 1, 2, 3, 4, 5, 129, 132, 255}) {
            DoorServer door = Bench.withUsers();
            check.due("kind " + kind, asks(door, 1, Bench.attribute(79, 2, 0, 0, 5, kind)), kind == 1 ? 11 : 3);
            if (kind != 1) {
                dueReject("kind " + kind, door, 0);
            }
        }
    }

    /** "the number (that of the talk and 1, modulo 256)". */
    private static void talkNumber() {
        for (int number : new int[] {0, 1, 127, 128, 254, 255}) {
            DoorServer door = Bench.withUsers();
            check.due("hello(" + number + ")", Bench.ask(door, 0, 31, 1, number), 11);
            int next = number == 255 ? 0 : number + 1;
            byte[] drawn = drawn(door);
            dueAnswer("its CHALLENGE", door, 11, Model.join(state(1), Bench.attribute(79, 1, next, 0, 22, 4, 16, drawn)));
            check.due("a reply by it", asks(door, 2, state(1), good(next, drawn)), 2);
            dueAnswer("its ACCEPT", door, 2, Bench.attribute(79, 3, next, 0, 4));
        }
    }

    /** "its mark (1, 2, .., as they are given)", "STATE, the mark in 8 bytes", "DRAWN: with h, at first 1". */
    private static void marks() {
        DoorServer door = Bench.withUsers();
        long h = 1;
        for (int mark = 1; mark <= 20; mark++) {
            byte[] drawn = new byte[16];
            for (int i = 0; i < 16; i++) {
                h = h * 6364136223846793005L + 1442695040888963407L;
                drawn[i] = (byte) (h >>> 56);
            }
            check.due("hello", Bench.ask(door, 0, 31, mark, mark), 11);
            check.due("its mark", door.byteAt(29), mark);
            if (mark <= 2 || mark == 20) {
                dueAnswer("CHALLENGE " + mark, door, 11,
                    Model.join(state(mark), Bench.attribute(79, 1, mark + 1, 0, 22, 4, 16, drawn)));
            }
        }
    }

    /** "At most 6 are kept; the earliest goes for one more." */
    private static void sixTrials() {
        for (int given = 5; given <= 8; given++) {
            for (int mark = 1; mark <= given; mark++) {
                DoorServer door = Bench.withUsers();
                byte[] drawn = new byte[0];
                for (int i = 1; i <= given; i++) {
                    Bench.ask(door, 0, 31, i, 7);
                    drawn = i == mark ? drawn(door) : drawn;
                }
                check.due("trials of " + given, door.count(1), Math.min(given, 6));
                boolean kept = mark > given - 6;
                check.due("a reply to " + mark + " of " + given, asks(door, 100, state(mark), good(8, drawn)), kept ? 2 : 3);
                check.due("trials then", door.count(1), Math.min(given, 6) - (kept ? 1 : 0));
            }
        }
    }

    /** A trial that was used up makes room: then none goes for one more. */
    private static void roomAmongTrials() {
        for (int used = 1; used <= 6; used++) {
            DoorServer door = Bench.withUsers();
            byte[][] drawn = new byte[9][];
            for (int mark = 1; mark <= 6; mark++) {
                Bench.ask(door, 0, 31, mark, 7);
                drawn[mark] = drawn(door);
            }
            asks(door, 100, state(used), good(8, drawn[used]));
            check.due("trials", door.count(1), 5);
            Bench.ask(door, 0, 31, 7, 7);
            check.due("one more", door.count(1), 6);
            Bench.ask(door, 0, 31, 8, 7);
            check.due("and one for the earliest", door.count(1), 6);
            int gone = used == 1 ? 2 : 1;
            check.due("it has gone", asks(door, 101, state(gone), good(8, drawn[gone])), 3);
            int next = used == gone + 1 ? gone + 2 : gone + 1;
            check.due("the next is kept", asks(door, 102, state(next), good(8, drawn[next])), 2);
            check.due("trials then", door.count(1), 5);
        }
    }

    /** "Kind 4: there must be STATE, the mark of a trial that is kept". */
    private static void trialMark() {
        long[] marks = {0, 2, 257, 1L << 32 | 1, 1L << 56 | 1, Long.MIN_VALUE | 1, -1};
        for (long mark : marks) {
            DoorServer door = Bench.withUsers();
            Bench.ask(door, 0, 31, 1, 7);
            check.due("mark " + mark, asks(door, 2, state(mark), good(8, drawn(door))), 3);
            dueReject("mark " + mark, door, 8);
            check.due("the trial is kept", door.count(1), 1);
        }
        DoorServer door = Bench.withUsers();
        Bench.ask(door, 0, 31, 1, 7);
        byte[] good = good(8, drawn(door));
        check.due("without STATE", asks(door, 2, good), 3);
        dueReject("without STATE", door, 8);
        check.due("the trial is kept", door.count(1), 1);
        check.due("mark 1, TALK before STATE", asks(door, 3, good, state(1)), 2);
        check.due("it is kept no more", door.count(1), 0);
        check.due("mark 1 again", asks(door, 4, state(1), good), 3);
        dueReject("mark 1 again", door, 8);
        check.due("trials", door.count(1), 0);
    }

    /** "of this station and user". */
    private static void trialStationAndUser() {
        DoorServer door = Bench.withUsers();
        door.user(30, P, 60);
        Bench.ask(door, 3, 31, 1, 7);
        byte[] good = good(8, drawn(door));
        for (int station = 0; station < 4; station++) {
            for (int user = 30; user <= 31; user++) {
                if (station == 3 && user == 31) {
                    continue;
                }
                door.draft(1, 10 + user, 1);
                door.name(user);
                Bench.attach(door, state(1), good);
                check.due("from station " + station + ", of user " + user, Bench.proved(door, station), 3);
                check.due("the trial is kept", door.count(1), 1);
            }
        }
        door.draft(1, 10, 1);
        door.name(31);
        Bench.attach(door, state(1), good);
        check.due("of its own", Bench.proved(door, 3), 2);
        check.due("it is kept no more", door.count(1), 0);
    }

    /** "it is kept no more then, whatever comes of it. It must have the talk's number". */
    private static void trialNumber() {
        for (int number : new int[] {7, 8, 9}) {
            DoorServer door = Bench.withUsers();
            Bench.ask(door, 0, 31, 1, 7);
            byte[] drawn = drawn(door);
            check.due("a reply by number " + number, asks(door, 2, state(1), good(number, drawn)), number == 8 ? 2 : 3);
            dueAnswer("its answer", door, number == 8 ? 2 : 3, Bench.attribute(79, number == 8 ? 3 : 4, number, 0, 4));
            check.due("trials", door.count(1), 0);
        }
    }

    /** "and be given 60 ticks ago or less." */
    private static void trialTicks() {
        for (int n : new int[] {1, 59, 60, 61, 1000}) {
            DoorServer door = Bench.withUsers();
            door.ticks(100);
            Bench.ask(door, 0, 31, 1, 7);
            byte[] drawn = drawn(door);
            door.ticks(n);
            check.due("a reply " + n + " ticks later", asks(door, 2, state(1), good(8, drawn)), n <= 60 ? 2 : 3);
            dueAnswer("its answer", door, n <= 60 ? 2 : 3, Bench.attribute(79, n <= 60 ? 3 : 4, 8, 0, 4));
            check.due("trials", door.count(1), 0);
        }
    }

    /** "TALK's sixth byte must be 16". */
    private static void sixthByte() {
        for (int sixth : new int[] {0, 15, 16, 17, 144, 255}) {
            DoorServer door = Bench.withUsers();
            Bench.ask(door, 0, 31, 1, 7);
            byte[] talk = Model.with(good(8, drawn(door)), 7, Bench.bytes(sixth));
            check.due("a sixth byte " + sixth, asks(door, 2, state(1), talk), sixth == 16 ? 2 : 3);
            check.due("trials", door.count(1), 0);
        }
        DoorServer door = Bench.withUsers();
        Bench.ask(door, 0, 31, 1, 7);
        check.due("no sixth byte", asks(door, 2, state(1), Bench.attribute(79, 2, 8, 0, 5, 4)), 3);
        dueReject("no sixth byte", door, 8);
        check.due("trials", door.count(1), 0);
    }

    /** "its length 22". */
    private static void replyBytes() {
        for (int n : new int[] {6, 20, 21, 22, 23, 24, 100}) {
            DoorServer door = Bench.withUsers();
            Bench.ask(door, 0, 31, 1, 7);
            byte[] digest = Model.md5(8, PASSWORD_31, drawn(door));
            byte[] behind = Model.join(2, 8, 0, n, 4, 16, Arrays.copyOf(digest, n - 6));
            check.due("a reply of " + n, asks(door, 2, state(1), Bench.attribute(79, behind)), n == 22 ? 2 : 3);
            check.due("trials", door.count(1), 0);
            if (n > 22) {
                Bench.ask(door, 0, 31, 3, 7);
                digest = Model.md5(8, PASSWORD_31, drawn(door));
                byte[] before = Model.join(2, 8, 0, n, 4, 16, new byte[n - 22], digest);
                check.due("its last 16", asks(door, 4, state(2), Bench.attribute(79, before)), 3);
                check.due("trials", door.count(1), 0);
            }
        }
    }

    /** "and its last 16 bytes D(the number, the user's password, the bytes drawn)". */
    private static void replyDigest() {
        for (int i = 0; i < 16; i++) {
            for (int x : new int[] {1, 128}) {
                DoorServer door = Bench.withUsers();
                Bench.ask(door, 0, 31, 1, 7);
                byte[] talk = good(8, drawn(door));
                talk[8 + i] ^= (byte) x;
                check.due("byte " + i + " of the digest ^ " + x, asks(door, 2, state(1), talk), 3);
                dueReject("its answer", door, 8);
                check.due("trials", door.count(1), 0);
            }
        }
        for (int n : new int[] {1, 59, 60}) {
            DoorServer door = new DoorServer();
            door.user(31, P, n);
            Bench.ask(door, 0, 31, 1, 255);
            door.draft(1, 2, 2);
            door.name(31);
            door.reply(P, n);
            check.due("a password of " + n, Bench.proved(door, 0), 2);
        }
    }

    /** "It is kept for the station and the identifier, instead of what was". */
    private static void keptInstead() {
        DoorServer door = new DoorServer();
        door.draft(1, 7, 1);
        Bench.proved(door, 0);
        door.draft(1, 7, 2);
        Bench.proved(door, 0);
        door.draft(1, 7, 1);
        Bench.proved(door, 0);
        check.due("what was is gone", door.count(0) * 100 + door.count(3) * 10 + door.count(4), 130);
        // What is not answered is not kept.
        door.draft(4, 7, 1);
        check.due("MISSING", Bench.sealed(door, 0), DoorServer.MISSING);
        door.draft(1, 7, 1);
        Bench.proved(door, 0);
        check.due("leaves what was", door.count(4), 1);
    }

    /** "at most 40 answers are kept, the one that was given earliest goes for one more." */
    private static void fortyAnswers() {
        for (int given = 39; given <= 42; given++) {
            for (int which : new int[] {1, 2, 3, given}) {
                DoorServer door = new DoorServer();
                for (int i = 1; i <= given; i++) {
                    door.draft(1, i, 1);
                    Bench.proved(door, 0);
                }
                check.due("kept of " + given, door.count(0), Math.min(given, 40));
                door.draft(1, which, 1);
                Bench.proved(door, 0);
                boolean kept = which > given - 40;
                check.due("answer " + which + " of " + given, door.count(4), kept ? 1 : 0);
                check.due("answered anew", door.count(3), kept ? given : given + 1);
                check.due("kept then", door.count(0), Math.min(given, 40));
            }
        }
    }

    /** "the one that was given earliest": what was given instead of another is the latest, what was given alike is not. */
    private static void earliestAnswer() {
        for (int way = 0; way < 2; way++) {
            DoorServer door = new DoorServer();
            for (int i = 1; i <= 40; i++) {
                door.draft(1, i, 1);
                Bench.proved(door, 0);
            }
            // Anew or alike.
            int seed = way == 0 ? 2 : 1;
            door.draft(1, 1, seed);
            Bench.proved(door, 0);
            door.draft(1, 41, 1);
            Bench.proved(door, 0);
            check.due("kept", door.count(0), 40);
            int alike = door.count(4);
            door.draft(1, way == 0 ? 1 : 2, way == 0 ? 2 : 1);
            Bench.proved(door, 0);
            check.due("what is kept", door.count(4), alike + 1);
            door.draft(1, way == 0 ? 2 : 1, 1);
            Bench.proved(door, 0);
            check.due("what has gone", door.count(4), alike + 1);
        }
    }

    /** What is too old to be answered alike is kept all the same. */
    private static void oldAnswers() {
        DoorServer door = new DoorServer();
        door.draft(1, 1, 1);
        Bench.proved(door, 0);
        door.ticks(1000);
        check.due("kept", door.count(0), 1);
        Bench.proved(door, 0);
        check.due("and replaced", door.count(0) * 10 + door.count(3), 12);
    }

    private static void dueRecord(String what, DoorServer door, int k, long... due) {
        for (int i = 0; i < due.length; i++) {
            check.due(what + ": record(" + k + ", " + i + ")", door.record(k, i), due[i]);
        }
    }

    private static byte[] in(long v) {
        return Bench.attribute(42, Bench.big(v, 4));
    }

    private static byte[] out(long v) {
        return Bench.attribute(43, Bench.big(v, 4));
    }

    private static int next;

    private static int tell(DoorServer door, int status, byte[]... more) {
        next = (next + 1) % 200;
        return Bench.use(door, 2, next, Bench.bytes(9), status, more);
    }

    /** "STATUS 1: if there is none it comes, open, with IN and OUT 0; else nothing." */
    private static void statusOne() {
        DoorServer door = new DoorServer();
        next = 13;
        door.ticks(4);
        tell(door, 1, in(5), out(6));
        dueRecord("it comes", door, 0, 2, 0, 4, 4, 0, 0, 1, 9, '4');
        door.ticks(1);
        tell(door, 1, in(5), out(6));
        dueRecord("else nothing", door, 0, 2, 0, 4, 4, 0, 0, 1, 9, '4');
        tell(door, 2, in(1));
        dueRecord("closed", door, 0, 2, 1, 4, 5, 1, 0, 1, 9, '4');
        door.ticks(1);
        tell(door, 1, in(5), out(6));
        dueRecord("nor is it opened", door, 0, 2, 1, 4, 5, 1, 0, 1, 9, '4');
    }

    /** "2 and 3: if there is none it comes, with what the packet has (0 for what it has not)". */
    private static void comesWithout() {
        long[][] numbers = {{-1, -1}, {0, -1}, {-1, 0}, {1, 2}, {0xffffffffL, -1}, {-1, 0x80000000L}};
        for (int status = 2; status <= 3; status++) {
            for (long[] pair : numbers) {
                DoorServer door = new DoorServer();
                next = 15;
                tell(door, status, pair[0] < 0 ? new byte[0] : in(pair[0]), pair[1] < 0 ? new byte[0] : out(pair[1]));
                dueRecord("by STATUS " + status, door, 0, 2, status == 2 ? 1 : 0, 0, 0,
                    Math.max(0, pair[0]), Math.max(0, pair[1]), 1, 9, '6');
            }
        }
    }

    /** "IN and OUT become the packet's if that has them and they are greater" (those "of 4 bytes have no sign"). */
    private static void greater() {
        long[] olds = {0, 1, 255, 256, 0x7fffffffL, 0x80000000L, 0xfffffffeL, 0xffffffffL};
        for (int status = 2; status <= 3; status++) {
            for (long old : olds) {
                for (long now : new long[] {old - 1, old, old + 1, 0, 0x80000000L, 0xffffffffL}) {
                    if (now < 0 || now > 0xffffffffL) {
                        continue;
                    }
                    DoorServer door = new DoorServer();
                    tell(door, 3, in(old), out(7));
                    door.ticks(1);
                    tell(door, status, in(now));
                    dueRecord("IN " + old + ", then " + now, door, 0, 2, status == 2 ? 1 : 0, 0, 1, Math.max(old, now), 7);
                    door = new DoorServer();
                    tell(door, 3, in(7), out(old));
                    door.ticks(1);
                    tell(door, status, out(now));
                    dueRecord("OUT " + old + ", then " + now, door, 0, 2, status == 2 ? 1 : 0, 0, 1, 7, Math.max(old, now));
                }
            }
        }
    }

    /** "a later one with STATUS 2 or 3 while it was open, whatever that changed". */
    private static void latestChange() {
        DoorServer door = new DoorServer();
        tell(door, 1);
        int time = 0;
        for (int status : new int[] {3, 1, 3, 3, 2, 3, 2, 1}) {
            boolean open = door.record(0, 1) == 0;
            long before = door.record(0, 3);
            time = door.ticks(1);
            check.due("answered", tell(door, status), 5);
            check.due("the latest change by " + status, door.record(0, 3), open && status != 1 ? time : before);
            check.due("when it came", door.record(0, 2), 0);
        }
        check.due("closed, it takes nothing", tell(door, 3, in(5), out(5)), 5);
        dueRecord("closed", door, 0, 2, 1, 0, 5, 0, 0);
    }

    /** "RECORDS are for a station and a SESSION (bytes)". */
    private static void recordFor() {
        DoorServer door = new DoorServer();
        byte[][] sessions = {Bench.bytes(0), Bench.bytes(0, 0), Bench.row(15, 7), Bench.row(16, 7), Bench.bytes(255)};
        int identifier = 0;
        for (int station = 0; station < 4; station += 3) {
            for (byte[] session : sessions) {
                Bench.use(door, station, identifier++, session, 1);
                check.due("records", door.count(2), identifier);
                Bench.use(door, station, 100 + identifier, session, 3);
                check.due("the same", door.count(2), identifier);
            }
        }
        byte[] last = Bench.row(16, 7);
        last[15]++;
        Bench.use(door, 0, 200, last, 1);
        check.due("another sixteenth byte", door.count(2), identifier + 1);
    }

    /** "At most 50 records are there; a packet that would need one more is answered, but not written down." */
    private static void fiftyRecords() {
        for (int status = 1; status <= 3; status++) {
            for (int before = 48; before <= 50; before++) {
                DoorServer door = new DoorServer();
                for (int i = 0; i < before; i++) {
                    Bench.use(door, 0, i, Bench.bytes(2 * i + 1), 1);
                }
                check.due("records", door.count(2), before);
                door.ticks(1);
                // In the midst, before all and behind all.
                for (int session : new int[] {50, 0, 200}) {
                    int due = Math.min(50, door.count(2) + 1);
                    check.due("one more", Bench.use(door, 0, 100 + session / 2, Bench.bytes(session), status, in(9)), 5);
                    check.due("records then", door.count(2), due);
                }
                check.due("answered", door.count(3), before + 3);
                check.due("the first", door.record(0, 7), before == 48 ? 0 : 1);
                check.due("the last", door.record(49, 7), before == 50 ? 99 : 2 * before - 1);
                check.due("behind the last", Check.thrownBy(() -> door.record(50, 0)), Check.ILLEGAL_ARGUMENT);
                int k = before == 48 ? 1 : 0;
                Bench.use(door, 0, 99, Bench.bytes(1), 2, in(9));
                dueRecord("what is there changes still", door, k, 0, 1, 0, 1, 9, 0, 1, 1, '0');
            }
        }
    }

    /** "The name stays that of the packet by which it came." */
    private static void nameStays() {
        for (int n : new int[] {1, 2, 19, 20}) {
            DoorServer door = new DoorServer();
            for (int status : new int[] {1, 3, 2, 3}) {
                door.draft(4, status, door.count(3));
                door.put(1, status == 1 ? n : 5, status == 1 ? 200 : 50);
                door.put(44, 1, 1);
                door.number(40, status);
                check.due("answered", Bench.sealed(door, 0), 5);
                check.due("the last byte of a NAME of " + n, door.record(0, 8), 199 + n);
            }
        }
    }

    /** Promise 19: "by station, then by SESSION byte by byte, a shorter one that the other begins with before it". */
    private static void recordOrder() {
        int[][] sorted = {{0, 0}, {0, 0, 0}, {0, 0, 255}, {0, 1}, {0, 1, 0}, {0, 127}, {0, 128}, {0, 128, 0}, {0, 255},
            {0, 255, 255}, {1, 0}, {2, 5, 1}, {2, 5, 2}, {2, 6}, {3, 0}};
        for (int turn = 0; turn < sorted.length; turn++) {
            DoorServer door = new DoorServer();
            for (int i = 0; i < sorted.length; i++) {
                int[] one = sorted[(i * 7 + turn) % sorted.length];
                byte[] session = new byte[one.length - 1];
                for (int b = 0; b < session.length; b++) {
                    session[b] = (byte) one[b + 1];
                }
                Bench.use(door, one[0], (i * 7 + turn) % sorted.length, session, 1);
            }
            for (int k = 0; k < sorted.length; k++) {
                dueRecord("turn " + turn, door, k, sorted[k][0], 0, 0, 0, 0, 0, sorted[k].length - 1, sorted[k][1], '0' + k % 10);
            }
        }
    }

    /** Promise 19: "6 how many bytes SESSION has, 7 the first of them". */
    private static void sessionBytes() {
        for (int n : new int[] {1, 2, 15, 16}) {
            DoorServer door = new DoorServer();
            Bench.use(door, 3, 1, Bench.row(n, 250), 1);
            dueRecord("a SESSION of " + n, door, 0, 3, 0, 0, 0, 0, 0, n, 250, '1');
        }
    }

    /** "send() leaves it as it is." */
    private static void draftStays() {
        for (int n : new int[] {1, 4, 7}) {
            DoorServer door = Bench.lived();
            door.draft(n, 9, 9);
            door.name(31);
            door.hello(3);
            door.prove(0);
            if (n == 4) {
                door.seal(0);
            }
            byte[] before = Check.draft(door);
            int code = door.send(0);
            check.due("send of code " + n, code, n == 1 ? 11 : n == 4 ? DoorServer.MISSING : DoorServer.OTHER);
            check.due("the draft of code " + n, Check.draft(door), before);
        }
    }

    public static void main(String[] args) {
        names();
        toldUsers();
        uncovered();
        passwordAndTalk();
        talkBytes();
        talkCode();
        shortTalk();
        talkKinds();
        talkNumber();
        marks();
        sixTrials();
        roomAmongTrials();
        trialMark();
        trialStationAndUser();
        trialNumber();
        trialTicks();
        sixthByte();
        replyBytes();
        replyDigest();
        keptInstead();
        fortyAnswers();
        earliestAnswer();
        oldAnswers();
        statusOne();
        comesWithout();
        greater();
        latestChange();
        recordFor();
        fiftyRecords();
        nameStays();
        recordOrder();
        sessionBytes();
        draftStays();
        check.end();
    }
}
