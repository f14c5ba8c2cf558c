import java.util.Arrays;
import java.util.function.Consumer;
import java.util.function.ToIntFunction;

/**
 * Each sentence by which a call is refused: the last numbers that it takes, the first that it does not, and that a
 * refused call changes nothing. The sentence stands above its test.
 */
public final class BoundsTest {
    private static final Check check = new Check();
    private static final long P = Bench.P;

    /** A call with one number that has bounds. */
    private interface Bounded {
        void call(DoorServer door, int v);
    }

    /** Every number out of bounds is refused, and those at the bounds and just within are not. */
    private static void within(String what, int least, int most, Bounded bounded) {
        for (int v : Bench.outside(least, most)) {
            check.illegal(what + " of " + v, door -> bounded.call(door, v));
        }
        for (int v : new int[] {least, least + 1, most - 1, most}) {
            due(what + " of " + v + " is taken", () -> bounded.call(Bench.lived(), v), 0);
        }
    }

    private static void due(String what, Check.Call call, int thrown) {
        check.due(what + " (1 IllegalArgumentException, 2 IllegalStateException)", Check.thrownBy(call), thrown);
    }

    private static byte[] tail(DoorServer door, int n) {
        int end = door.count(5);
        return Check.draft(door, end - n, end);
    }

    private static byte[] authenticator(DoorServer door) {
        return Check.draft(door, 4, 20);
    }

    private static int length(DoorServer door) {
        return door.spoil(2, 0) * 256 + door.spoil(3, 0);
    }

    /** What the refusals are tried on has something of everything, or "changes nothing" would say little. */
    private static void lived() {
        int[] due = {4, 1, 2, 4, 0, 25};
        DoorServer door = Bench.lived();
        for (int what = 0; what < due.length; what++) {
            check.due("count(" + what + ") of what has lived", door.count(what), due[what]);
        }
        check.due("its last answer", door.byteAt(0), 11);
        check.due("a reply to it", door.reply(P, 60), 59);
        check.due("is accepted", Bench.proved(door, 0), 2);
    }

    /** "STATIONS are 0 .. 3". */
    private static void stations() {
        within("secret: a station", 0, 3, (door, v) -> door.secret(v, 1, 1));
        within("password: a station", 0, 3, (door, v) -> door.password(v, 1, 1));
        within("prove: a station", 0, 3, DoorServer::prove);
        within("seal: a station", 0, 3, DoorServer::seal);
        within("send: a station", 0, 3, DoorServer::send);
    }

    /** "USERS 0 .. 31". */
    private static void users() {
        within("user: a user", 0, 31, (door, v) -> door.user(v, 1, 1));
        within("name: a user", 0, 31, DoorServer::name);
    }

    /** "TIME is a number of ticks, 0 at first." */
    private static void firstTime() {
        DoorServer door = new DoorServer();
        check.due("a session of the first tick", Bench.use(door, 0, 1, Bench.bytes(1), 1), 5);
        check.due("came at", door.record(0, 2), 0);
        check.due("changed at", door.record(0, 3), 0);
        check.due("ticks(1)", door.ticks(1), 1);
    }

    /** "Bytes are 0 .. 255." */
    private static void byteNumbers() {
        within("draft: a code", 0, 255, (door, v) -> door.draft(v, 1, 1));
        within("draft: an identifier", 0, 255, (door, v) -> door.draft(1, v, 1));
        within("put: a type", 0, 255, (door, v) -> door.put(v, 1, 1));
        within("put: a byte", 0, 255, (door, v) -> door.put(1, 1, v));
        within("number: a type", 0, 255, (door, v) -> door.number(v, 1));
        within("hello: a number", 0, 255, DoorServer::hello);
        within("spoil: a byte", 0, 255, (door, v) -> door.spoil(0, v));
    }

    /** "H(s, x) .. where s is made 64 bytes long by zeros". */
    private static void shortAndLongSecrets() {
        for (int n : new int[] {1, 2, 39, 40}) {
            DoorServer door = new DoorServer();
            door.secret(3, P, n);
            byte[] blank = Model.join(1, 0, 0, 38, authenticator(door), 80, 18, new byte[16]);
            door.prove(3);
            check.due("a proof by a secret of " + n, tail(door, 16), Model.hmac(Model.pattern(P, n), blank));
        }
    }

    /** "The DRAFT is a packet in the making, at first that of draft(1, 0, 0)". */
    private static void firstDraft() {
        DoorServer told = new DoorServer();
        told.draft(1, 0, 0);
        check.due("the first draft", Check.draft(new DoorServer()), Check.draft(told));
        check.due("its bytes", Check.draft(told),
            Bench.bytes(1, 0, 0, 20, 0, 0, 0, 0, 0, 0, 0, 0, 90, 90, 90, 90, 90, 90, 90, 90));
    }

    /** "what comes into it comes at its end, and LENGTH is put right then." */
    private static void lengthIsPutRight() {
        wrongLength("put", door -> door.put(7, 0, 0), 22);
        wrongLength("number", door -> door.number(7, 0), 26);
        wrongLength("name", door -> door.name(0), 25);
        wrongLength("password", door -> door.password(0, 1, 1), 38);
        wrongLength("hello", door -> door.hello(0), 27);
        wrongLength("reply", door -> door.reply(P, 1), 54);
        wrongLength("prove", door -> door.prove(0), 38);
        wrongLength("seal", door -> door.seal(0), 20);
        for (int n : new int[] {255, 256, 257, 511, 512, 999, 1000}) {
            DoorServer door = Bench.filled(n);
            check.due("LENGTH of " + n, length(door), n);
        }
        DoorServer door = new DoorServer();
        door.spoil(2, 9);
        door.spoil(3, 9);
        check.due("NONE leaves a wrong LENGTH", door.reply(P, 1), DoorServer.NONE);
        check.due("as it was", length(door), 9 * 256 + (20 ^ 9));
    }

    private static void wrongLength(String what, Consumer<DoorServer> call, int due) {
        DoorServer door = Bench.lived();
        door.draft(1, 1, 1);
        door.spoil(2, 255);
        door.spoil(3, 255);
        call.accept(door);
        check.due(what + " puts LENGTH right", length(door), due);
    }

    /** "Its attributes are gone through from byte 20 on, as long as there is one of 2 bytes or more". */
    private static void attributesOfTwoBytes() {
        for (int says = 0; says <= 3; says++) {
            DoorServer door = new DoorServer();
            Bench.attach(door, 26, says, new byte[Math.max(0, says - 2)], Bench.attribute(80, Bench.row(16, 1)));
            int n = door.count(5);
            check.due("prove behind an attribute of " + says, door.prove(0), says < 2 ? n + 18 : n);
        }
        // Gone through byte by byte, there would be a PROOF behind one of 3 bytes.
        DoorServer door = new DoorServer();
        Bench.attach(door, 26, 1, 3, 0, Bench.attribute(80, Bench.row(16, 1)));
        check.due("prove behind an attribute of 1 that holds one of 3", door.prove(0), 60);
    }

    /** ".. that does not go beyond its end." */
    private static void attributesThatEndWithin() {
        for (int says = 17; says <= 19; says++) {
            DoorServer door = new DoorServer();
            Bench.attach(door, 80, says, Bench.row(16, 1));
            int due = says == 18 ? 38 : 56;
            check.due("prove with a last PROOF that says " + says, door.prove(0), due);
        }
        for (int says = 4; says <= 7; says++) {
            DoorServer door = new DoorServer();
            Bench.attach(door, 26, says, 7, 7, 80, 18, Bench.row(16, 1));
            check.due("prove behind an attribute of 4 that says " + says, door.prove(0), says == 4 ? 42 : 60);
        }
    }

    /** "Of several exceptions the one named first is thrown". */
    private static void firstException() {
        Consumer<DoorServer> full = door -> Bench.fill(door, 1000);
        argumentFirst("put: a type", full, door -> door.put(256, 1, 1));
        argumentFirst("put: n", full, door -> door.put(1, 101, 1));
        argumentFirst("put: b", full, door -> door.put(1, 1, 256));
        argumentFirst("number", full, door -> door.number(256, 1));
        argumentFirst("name", full, door -> door.name(32));
        argumentFirst("password: a station", full, door -> door.password(4, 1, 1));
        argumentFirst("password: n", full, door -> door.password(0, 1, 61));
        argumentFirst("hello", full, door -> door.hello(256));
        argumentFirst("reply", full, door -> door.reply(1, 61));
        argumentFirst("reply: n of 0", full, door -> door.reply(1, 0));
        argumentFirst("prove", full, door -> door.prove(4));
    }

    private static void argumentFirst(String what, Consumer<DoorServer> before, Consumer<DoorServer> call) {
        check.refuses(what + " in a full draft", Check.ILLEGAL_ARGUMENT, before, call);
    }

    /** Promise 1: "No users; the secrets of all stations are one byte, 49 and the station." */
    private static void newObject() {
        for (int station = 0; station < 4; station++) {
            DoorServer door = new DoorServer();
            byte[] blank = Model.join(1, 0, 0, 20, new byte[16]);
            door.seal(station);
            check.due("the secret of " + station, authenticator(door), Model.md5(blank, 49 + station));
        }
        for (int user : new int[] {0, 1, 30, 31}) {
            check.due("no user " + user, new DoorServer().user(user, 0, 1) ? 1 : 0, 1);
        }
    }

    /** Promise 2: "Illegal argument: n is not 1 .. 40." */
    private static void secretLength() {
        within("secret: n", 1, 40, (door, v) -> door.secret(0, P, v));
        for (int n : new int[] {1, 39, 40}) {
            DoorServer door = new DoorServer();
            door.secret(0, P, n);
            door.seal(0);
            byte[] blank = Model.join(1, 0, 0, 20, new byte[16]);
            check.due("a secret of " + n, authenticator(door), Model.md5(blank, Model.pattern(P, n)));
        }
    }

    /** Promise 2: "the k-th of which is 33 + ((p >> 8 (k modulo 8)) & 63)." */
    private static void patternBytes() {
        long[] numbers = {0, -1, 63, 64, 255, 256, Long.MIN_VALUE, Long.MAX_VALUE, 0x3f40_7f80_bfc0_ff00L, P};
        for (long p : numbers) {
            DoorServer door = new DoorServer();
            door.secret(0, p, 17);
            door.seal(0);
            byte[] due = new byte[17];
            for (int k = 0; k < 17; k++) {
                due[k] = (byte) (33 + (int) (p >> 8 * (k % 8) & 63));
            }
            check.due("a secret by " + p, authenticator(door), Model.md5(Model.join(1, 0, 0, 20, new byte[16]), due));
        }
    }

    /** Promise 2: "What was kept stays." */
    private static void keptStays() {
        DoorServer door = Bench.withUsers();
        Bench.ask(door, 0, 31, 1, 7);
        byte[] given = Check.answer(door);
        door.secret(0, P, 40);
        check.due("answers, trials", door.count(0) * 10 + door.count(1), 11);
        check.due("the same, proved by the new secret", Bench.proved(door, 0), 11);
        check.due("is answered alike", Check.answer(door), given);
        door.draft(1, 2, 2);
        door.name(31);
        door.reply(P, 60);
        check.due("and the trial is still good", Bench.proved(door, 0), 2);
    }

    /** Promise 3: "A user's password, likewise, 1 .. 60 bytes: whether it is a new user." */
    private static void passwordLength() {
        within("user: n", 1, 60, (door, v) -> door.user(0, P, v));
        for (int n : new int[] {1, 2, 59, 60}) {
            DoorServer door = new DoorServer();
            check.due("a new user", door.user(5, P, n) ? 1 : 0, 1);
            check.due("told again", door.user(5, P, n) ? 1 : 0, 0);
            door.name(5);
            door.password(0, P, n);
            check.due("a password of " + n, Bench.proved(door, 0), 2);
        }
        DoorServer door = new DoorServer();
        due("a user refused", () -> door.user(5, P, 61), Check.ILLEGAL_ARGUMENT);
        check.due("is still new", door.user(5, P, 60) ? 1 : 0, 1);
        due("another password refused", () -> door.user(5, 1, 0), Check.ILLEGAL_ARGUMENT);
        door.name(5);
        door.password(0, P, 60);
        check.due("leaves the one that was", Bench.proved(door, 0), 2);
    }

    /** Promise 4: "seed's lowest byte, the next one, and so on, all eight and these once more, each of these ^ 90." */
    private static void seeds() {
        for (long seed : new long[] {0, 1, 255, 256, -1, Long.MIN_VALUE, Long.MAX_VALUE, P}) {
            DoorServer door = new DoorServer();
            door.put(7, 50, 0);
            door.draft(255, 255, seed);
            byte[] due = new byte[16];
            for (int i = 0; i < 8; i++) {
                due[i] = (byte) (seed >> 8 * i);
                due[8 + i] = (byte) (due[i] ^ 90);
            }
            check.due("a draft by " + seed, Check.draft(door), Model.join(255, 255, 0, 20, due));
        }
    }

    /** Promise 5: "An attribute of n bytes, b, b + 1, .. (modulo 256)". */
    private static void putWraps() {
        for (int b = 253; b <= 255; b++) {
            DoorServer door = new DoorServer();
            door.put(255, 3, b);
            check.due("put from " + b, tail(door, 5), Bench.bytes(255, 5, b, (b + 1) % 256, (b + 2) % 256));
        }
    }

    /** Promise 5: "n is not 0 .. 100". */
    private static void putLength() {
        within("put: n", 0, 100, (door, v) -> door.put(7, v, 1));
        for (int n : new int[] {0, 1, 99, 100}) {
            DoorServer door = new DoorServer();
            check.due("put of " + n, door.put(7, n, 200), 22 + n);
            check.due("its bytes", tail(door, n + 2), Bench.attribute(7, Bench.row(n, 200)));
        }
    }

    /** Promise 5: "illegal state: there would be more than 1000", and "as for put()" in promises 6 to 11. */
    private static void room() {
        room("put(7, 0, 9)", 2, door -> door.put(7, 0, 9), Bench.attribute(7));
        room("put(7, 1, 9)", 3, door -> door.put(7, 1, 9), Bench.attribute(7, 9));
        room("put(7, 100, 9)", 102, door -> door.put(7, 100, 9), Bench.attribute(7, Bench.row(100, 9)));
        room("number(7, -1)", 6, door -> door.number(7, -1), Bench.attribute(7, 255, 255, 255, 255));
        room("name(31)", 5, door -> door.name(31), Bench.nameOf(31));
        room("hello(255)", 7, door -> door.hello(255), Bench.attribute(79, 2, 255, 0, 5, 1));
        byte[] authenticator = authenticator(Bench.lived());
        for (int n : new int[] {1, 16, 17, 32, 33, 48, 49, 60}) {
            byte[] covered = Model.covered(Model.pattern(P, 40), authenticator, Model.pattern(7, n));
            room("password(1, 7, " + n + ")", covered.length + 2, door -> door.password(1, 7, n), Bench.attribute(2, covered));
        }
        byte[] challenge = Check.answer(Bench.lived());
        byte[] digest = Model.md5(0, Model.pattern(P, 60), Arrays.copyOfRange(challenge, 38, 54));
        byte[] state = Bench.attribute(24, Bench.big(1, 8));
        room("reply(P, 60)", 34, door -> door.reply(P, 60), Model.join(state, Bench.attribute(79, 2, 0, 0, 22, 4, 16, digest)));
        room("prove(1)", 18, door -> door.prove(1), null);
    }

    /** What needs n bytes goes into a draft of 1000 - n and into one of a byte less, not into one of a byte more. */
    private static void room(String what, int n, ToIntFunction<DoorServer> call, byte[] value) {
        for (int before = 999 - n; before <= 1000 - n; before++) {
            DoorServer door = Bench.lived();
            Bench.fill(door, before);
            check.due(what + " into " + before, call.applyAsInt(door), before + n);
            check.due("LENGTH then", length(door), before + n);
            if (value != null) {
                check.due("its bytes", tail(door, n), value);
            }
        }
        for (int left = n - 1; left >= 0; left -= Math.max(1, n - 1)) {
            int before = 1000 - left;
            check.refuses(what + " into " + before, Check.ILLEGAL_STATE, door -> Bench.fill(door, before), call::applyAsInt);
        }
    }

    /** Promise 6: "One of four bytes, a number." (any int: its highest byte first, without sign) */
    private static void numbers() {
        for (int v : new int[] {0, 1, -1, 255, 256, Integer.MAX_VALUE, Integer.MIN_VALUE}) {
            DoorServer door = new DoorServer();
            check.due("number(255, " + v + ")", door.number(255, v), 26);
            check.due("its bytes", tail(door, 6), Bench.attribute(255, Bench.big(v, 4)));
        }
    }

    /** Promise 7: "NAME of a user comes into the draft (told or not)." */
    private static void nameDigits() {
        for (int user : new int[] {0, 1, 9, 10, 11, 19, 20, 29, 30, 31}) {
            DoorServer door = new DoorServer();
            check.due("name(" + user + ")", door.name(user), 25);
            check.due("its bytes", tail(door, 5), Bench.nameOf(user));
        }
    }

    /** Promise 8: "the bytes as for user()", 1 .. 60, and "with zeros behind it up to the next 16, 32, 48 or 64". */
    private static void coveredLength() {
        within("password: n", 1, 60, (door, v) -> door.password(0, P, v));
        for (int n : new int[] {1, 2, 15, 16, 17, 31, 32, 33, 47, 48, 49, 59, 60}) {
            DoorServer door = new DoorServer();
            int padded = n <= 16 ? 16 : n <= 32 ? 32 : n <= 48 ? 48 : 64;
            byte[] covered = Model.covered(Bench.bytes(50), authenticator(door), Model.pattern(P, n));
            check.due("password of " + n, door.password(1, P, n), 22 + padded);
            check.due("its bytes", tail(door, padded + 2), Bench.attribute(2, covered));
        }
    }

    /** Promise 10: "for this password (as for user())", 1 .. 60. */
    private static void replyLength() {
        within("reply: n", 1, 60, (door, v) -> door.reply(P, v));
        for (int n : new int[] {1, 2, 59, 60}) {
            DoorServer door = Bench.lived();
            byte[] drawn = Arrays.copyOfRange(Check.answer(door), 38, 54);
            door.reply(P, n);
            check.due("a reply of " + n, tail(door, 16), Model.md5(0, Model.pattern(P, n), drawn));
        }
    }

    /** Promise 10: "If the last answer is a CHALLENGE .. else NONE, changing nothing." */
    private static void replyToNothing() {
        replyToNothing("before any answer", new DoorServer(), new DoorServer());
        replyToNothing("in a full draft", Bench.filled(1000), Bench.filled(1000));
        replyToNothing("to an ACCEPT", answered(2), answered(2));
        replyToNothing("to a REJECT", answered(3), answered(3));
        replyToNothing("to what was written down", answered(5), answered(5));
        DoorServer door = Bench.lived();
        door.draft(9, 0, 0);
        check.due("what is not answered", door.send(0), DoorServer.OTHER);
        check.due("leaves the CHALLENGE the last answer", door.reply(P, 60), 54);
        for (int n : Bench.outside(1, 60)) {
            due("n of " + n + " without a CHALLENGE", () -> new DoorServer().reply(P, n), Check.ILLEGAL_ARGUMENT);
        }
    }

    private static void replyToNothing(String what, DoorServer door, DoorServer other) {
        check.due("reply " + what, door.reply(P, 60), DoorServer.NONE);
        check.due("reply " + what + " changes nothing", Bench.allOf(door).equals(Bench.allOf(other)) ? 1 : 0, 1);
    }

    /** An object whose last answer has a code, after a CHALLENGE. */
    private static DoorServer answered(int code) {
        DoorServer door = Bench.lived();
        if (code == 5) {
            check.due("code 5", Bench.use(door, 0, 60, Bench.bytes(9), 1), 5);
            return door;
        }
        door.draft(1, 60, 60);
        door.name(0);
        door.password(0, P, code == 2 ? 9 : 8);
        check.due("code " + code, Bench.proved(door, 0), code);
        return door;
    }

    /** Promise 11: "PROOF, 16 bytes 0, comes into the draft if it has none with 16 bytes". */
    private static void proofLength() {
        for (int n = 15; n <= 17; n++) {
            DoorServer door = new DoorServer();
            door.put(80, n, 1);
            check.due("prove with a PROOF of " + n, door.prove(0), n == 16 ? 38 : 40 + n);
        }
        for (int type = 79; type <= 81; type++) {
            DoorServer door = new DoorServer();
            door.put(type, 16, 1);
            check.due("prove with 16 bytes of type " + type, door.prove(0), type == 80 ? 38 : 56);
        }
    }

    /** Promise 11: "the first such PROOF is made what it must be". */
    private static void firstProof() {
        DoorServer door = new DoorServer();
        door.put(80, 15, 1);
        door.put(80, 16, 2);
        door.put(80, 16, 3);
        byte[] hole = Model.with(Check.draft(door), 39, new byte[16]);
        check.due("prove with several", door.prove(2), 73);
        check.due("makes the first of 16 right", Check.draft(door), Model.with(hole, 39, Model.hmac(Bench.bytes(51), hole)));
    }

    /** Promise 11: "the first such PROOF", in the draft as it is when one has come. */
    private static void firstProofOfTheLongerDraft() {
        for (int says = 17; says <= 19; says++) {
            DoorServer door = new DoorServer();
            Bench.attach(door, 80, says, Bench.row(14, 0));
            byte[] longer = Model.with(Model.join(Check.draft(door), 80, 18, new byte[16]), 2, Bench.bytes(0, 54));
            // 17 and 19 bytes are no PROOF of 16: then the one that came is the first.
            int at = says == 18 ? 22 : 38;
            byte[] hole = Model.with(longer, at, new byte[16]);
            check.due("prove where the last attribute says " + says, door.prove(0), 54);
            check.due("the draft then", Check.draft(door), Model.with(hole, at, Model.hmac(Bench.bytes(49), hole)));
        }
    }

    /** Promise 11: "illegal state: as for put(), if one must come". */
    private static void proofInFullDraft() {
        DoorServer door = Bench.filled(982);
        check.due("prove into 982", door.prove(0), 1000);
        byte[] by0 = tail(door, 16);
        check.due("prove again, none must come", door.prove(1), 1000);
        check.due("it is another proof", Arrays.equals(tail(door, 16), by0) ? 1 : 0, 0);
        check.refuses("prove into 983", Check.ILLEGAL_STATE, d -> Bench.fill(d, 983), d -> d.prove(0));
        check.refuses("prove into 1000", Check.ILLEGAL_STATE, d -> Bench.fill(d, 1000), d -> d.prove(0));
        check.refuses("prove into 1000 with the last byte left over", Check.ILLEGAL_STATE, d -> {
            Bench.fill(d, 943);
            Bench.attach(d, 26, 56, new byte[55]);
        }, d -> d.prove(0));
    }

    /** Promise 12: "LENGTH and the authenticator are put right": of any length, so with every filling that D knows. */
    private static void seals() {
        for (int n = 22; n <= 1000; n += n < 160 ? 1 : 28) {
            for (int station = 2; station <= 3; station++) {
                DoorServer door = Bench.filled(n);
                door.secret(3, P, 40);
                door.spoil(2, 1);
                door.spoil(3, 1);
                byte[] blank = Model.join(1, 0, Bench.big(n, 2), new byte[16], Bench.filling(n - 20));
                door.seal(station);
                check.due("LENGTH of " + n, length(door), n);
                byte[] secret = station == 2 ? Bench.bytes(51) : Model.pattern(P, 40);
                check.due("seal of " + n, authenticator(door), Model.md5(blank, secret));
            }
        }
    }

    /** The same for H: the proof of a draft of any length. */
    private static void proofs() {
        for (int n = 40; n <= 1000; n += n < 180 ? 1 : 20) {
            DoorServer door = Bench.filled(n - 18);
            byte[] blank = Model.join(1, 0, Bench.big(n, 2), authenticator(door), Bench.filling(n - 38), 80, 18, new byte[16]);
            check.due("prove", door.prove(1), n);
            check.due("a proof of " + n, tail(door, 16), Model.hmac(Bench.bytes(50), blank));
        }
    }

    /** Promise 13: "Illegal argument: there is no such byte". */
    private static void spoiledPlaces() {
        within("spoil: a place", 0, 24, (door, v) -> door.spoil(v, 1));
        for (int n : new int[] {20, 22, 999, 1000}) {
            DoorServer door = Bench.filled(n);
            int before = door.spoil(n - 1, 0);
            check.due("the last byte of " + n, door.spoil(n - 1, 255), before ^ 255);
            due("a byte behind it", () -> door.spoil(n, 1), Check.ILLEGAL_ARGUMENT);
        }
        DoorServer door = Bench.filled(1000);
        door.draft(1, 1, 1);
        due("byte 20 of a draft that was longer", () -> door.spoil(20, 1), Check.ILLEGAL_ARGUMENT);
        check.due("byte 19", door.spoil(19, 90), 0);
    }

    /** Promises 15 and 16: "0 without one"; "Illegal argument: there is none such." */
    private static void answerPlaces() {
        DoorServer none = new DoorServer();
        check.due("size() without an answer", none.size(), 0);
        for (int i : new int[] {-1, 0, 1, 19, 71, Integer.MIN_VALUE, Integer.MAX_VALUE}) {
            due("byteAt(" + i + ") without an answer", () -> none.byteAt(i), Check.ILLEGAL_ARGUMENT);
        }
        within("byteAt: a place of a CHALLENGE", 0, 71, DoorServer::byteAt);
        int[][] sizes = {{5, 20}, {3, 38}, {2, 38}};
        for (int[] size : sizes) {
            DoorServer door = answered(size[0]);
            check.due("size() of code " + size[0], door.size(), size[1]);
            check.due("byteAt(0)", door.byteAt(0), size[0]);
            due("the last byte", () -> door.byteAt(size[1] - 1), 0);
            // The CHALLENGE before it was longer, and is gone.
            due("the one behind it", () -> door.byteAt(size[1]), Check.ILLEGAL_ARGUMENT);
            due("byteAt(-1)", () -> door.byteAt(-1), Check.ILLEGAL_ARGUMENT);
        }
    }

    /** Promise 14: "BROKEN, OTHER, FORGED, MISSING (the last answer stays)." */
    private static void lastAnswerStays() {
        lastAnswerStays(DoorServer.BROKEN, door -> door.spoil(3, 1));
        lastAnswerStays(DoorServer.OTHER, door -> door.draft(2, 0, 0));
        lastAnswerStays(DoorServer.FORGED, door -> door.draft(1, 0, 0));
        lastAnswerStays(DoorServer.FORGED, door -> door.draft(4, 0, 0));
        lastAnswerStays(DoorServer.MISSING, door -> {
            door.draft(4, 0, 0);
            door.seal(0);
        });
    }

    private static void lastAnswerStays(int code, Consumer<DoorServer> before) {
        DoorServer door = Bench.lived();
        DoorServer other = Bench.lived();
        before.accept(door);
        before.accept(other);
        check.due("send", door.send(0), code);
        check.due("what is answered by " + code + " changes nothing", Bench.allOf(door).equals(Bench.allOf(other)) ? 1 : 0, 1);
    }

    /** Promise 17: "n is not 1 .. 1000". */
    private static void tickNumbers() {
        within("ticks: n", 1, 1000, DoorServer::ticks);
        for (int n : new int[] {1, 2, 999, 1000}) {
            check.due("ticks(" + n + ")", new DoorServer().ticks(n), n);
        }
    }

    /** Promise 17: "or it would be above 1000000". (It takes more calls than an object is used for.) */
    private static void lastTick() {
        DoorServer door = new DoorServer();
        for (int i = 0; i < 999; i++) {
            door.ticks(1000);
        }
        check.due("ticks(999)", door.ticks(999), 999999);
        due("ticks(2) to 1000001", () -> door.ticks(2), Check.ILLEGAL_ARGUMENT);
        due("ticks(1000)", () -> door.ticks(1000), Check.ILLEGAL_ARGUMENT);
        check.due("ticks(1)", door.ticks(1), 1000000);
        due("ticks(1) to 1000001", () -> door.ticks(1), Check.ILLEGAL_ARGUMENT);
    }

    /** Promise 18: "Illegal argument: what is none of these." */
    private static void counts() {
        within("count: what", 0, 5, DoorServer::count);
        for (int what = 0; what < 6; what++) {
            check.due("count(" + what + ") of a new object", new DoorServer().count(what), what == 5 ? 20 : 0);
        }
        check.due("count(5) of a full draft", Bench.filled(1000).count(5), 1000);
    }

    /** Promise 19: "Illegal argument: also if what is none of these." */
    private static void recordNumbers() {
        within("record: what", 0, 8, (door, v) -> door.record(0, v));
        within("record: k", 0, 1, (door, v) -> door.record(v, 0));
        DoorServer none = new DoorServer();
        for (int k : new int[] {-1, 0, 1, 49, 50}) {
            due("record(" + k + ", 0) without records", () -> none.record(k, 0), Check.ILLEGAL_ARGUMENT);
        }
        for (int what : Bench.outside(0, 8)) {
            due("record(0, " + what + ") without records", () -> none.record(0, what), Check.ILLEGAL_ARGUMENT);
        }
    }

    public static void main(String[] args) {
        lived();
        stations();
        users();
        firstTime();
        byteNumbers();
        shortAndLongSecrets();
        firstDraft();
        lengthIsPutRight();
        attributesOfTwoBytes();
        attributesThatEndWithin();
        firstException();
        newObject();
        secretLength();
        patternBytes();
        keptStays();
        passwordLength();
        seeds();
        putWraps();
        putLength();
        room();
        numbers();
        nameDigits();
        coveredLength();
        replyLength();
        replyToNothing();
        proofLength();
        firstProof();
        firstProofOfTheLongerDraft();
        proofInFullDraft();
        seals();
        proofs();
        spoiledPlaces();
        answerPlaces();
        lastAnswerStays();
        tickNumbers();
        lastTick();
        counts();
        recordNumbers();
        check.end();
    }
}
