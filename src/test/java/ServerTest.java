import java.util.Arrays;

/** What the server does with a packet (promise 14), in the document's order, and what it keeps (18 and 19). */
public final class ServerTest {
    private static final Check check = new Check();
    private static final long P = 0x8877665544332211L;
    private static final byte[] SECRET = {49};

    private static byte[] bytes(int... values) {
        byte[] row = new byte[values.length];
        for (int i = 0; i < row.length; i++) {
            row[i] = (byte) values[i];
        }
        return row;
    }

    private static DoorServer withUsers() {
        DoorServer door = new DoorServer();
        door.user(0, P, 9);
        door.user(31, P, 60);
        return door;
    }

    private static int proved(DoorServer door, int station) {
        door.prove(station);
        return door.send(station);
    }

    private static int sealed(DoorServer door, int station) {
        door.seal(station);
        return door.send(station);
    }

    /** The attributes of the last answer, but for its PROOF. */
    private static byte[] told(DoorServer door) {
        return Check.answer(door, 20, door.size() - 18);
    }

    /** The digests of the last answer are those that the request wants; the draft is still that request. */
    private static void dueDigests(String what, DoorServer door, byte[] secret, boolean hasProof) {
        byte[] answer = Check.answer(door);
        byte[] asked = Check.draft(door, 4, 20);
        byte[] text = Model.with(answer, 4, asked);
        check.due(what + ": identifier", answer[1] & 255, door.spoil(1, 0));
        check.due(what + ": LENGTH", (answer[2] & 255) * 256 + (answer[3] & 255), answer.length);
        check.due(what + ": authenticator", Arrays.copyOfRange(answer, 4, 20), Model.md5(text, secret));
        if (hasProof) {
            int at = answer.length - 16;
            check.due(what + ": head of PROOF", Arrays.copyOfRange(answer, at - 2, at), bytes(80, 18));
            byte[] blank = Model.with(text, at, new byte[16]);
            check.due(what + ": PROOF", Arrays.copyOfRange(answer, at, at + 16), Model.hmac(secret, blank));
        }
    }

    private static void dueFit(int type, int n, boolean fits) {
        DoorServer door = new DoorServer();
        door.draft(3, 0, 0);
        door.put(type, n, 0);
        check.due("a value of " + n + " for type " + type, door.send(0), fits ? DoorServer.OTHER : DoorServer.BROKEN);
        door.put(type, n, 0);
        check.due("twice " + n + " for type " + type, door.send(0), fits && type == 26 ? DoorServer.OTHER : DoorServer.BROKEN);
    }

    private static void whole() {
        int[][] bounds = {{1, 1, 20}, {24, 8, 8}, {40, 4, 4}, {42, 4, 4}, {43, 4, 4}, {44, 1, 16}, {79, 4, 100}, {80, 16, 16}, {26, 1, 100}};
        for (int[] bound : bounds) {
            for (int n = 0; n <= 100; n++) {
                dueFit(bound[0], n, n >= bound[1] && n <= bound[2]);
            }
        }
        for (int n = 0; n <= 100; n++) {
            dueFit(2, n, n == 16 || n == 32 || n == 48 || n == 64);
        }
        DoorServer door = new DoorServer();
        door.draft(3, 0, 0);
        check.due("20 bytes", door.send(0), DoorServer.OTHER);
        door.spoil(3, 1);
        check.due("LENGTH is too great", door.send(0), DoorServer.BROKEN);
        door.spoil(3, 1 ^ 7);
        check.due("LENGTH is too small", door.send(0), DoorServer.BROKEN);
        door.spoil(3, 7);
        door.spoil(2, 1);
        check.due("LENGTH has another high byte", door.send(0), DoorServer.BROKEN);
        for (int taken = 0; taken < 256; taken++) {
            door = new DoorServer();
            door.draft(3, 0, 0);
            door.put(26, 5, 100);
            door.spoil(21, 7 ^ taken);
            check.due("an attribute that says " + taken, door.send(0), taken == 7 ? DoorServer.OTHER : DoorServer.BROKEN);
        }
        door.draft(3, 0, 0);
        door.put(26, 6, 1);
        door.spoil(21, 8 ^ 4);
        check.due("two attributes where there was one", door.send(0), DoorServer.OTHER);
        door.spoil(21, 4 ^ 7);
        check.due("a byte is left at the end", door.send(0), DoorServer.BROKEN);
        for (int n = 98; n <= 100; n++) {
            for (int type : new int[] {26, 79}) {
                door.draft(3, 0, 0);
                door.put(type, n, 0);
                door.put(26, 0, 0);
                door.spoil(21, (n + 2) ^ (n + 4));
                boolean fits = type == 26 || n + 2 <= 100;
                check.due("a value of " + (n + 2) + " for type " + type, door.send(0), fits ? DoorServer.OTHER : DoorServer.BROKEN);
            }
        }
    }

    private static void orderOfRefusals() {
        for (int code = 0; code < 256; code++) {
            DoorServer door = withUsers();
            door.draft(code, 0, 0);
            int due = code == 1 || code == 4 ? DoorServer.FORGED : DoorServer.OTHER;
            check.due("code " + code, door.send(0), due);
            door.spoil(3, 1);
            check.due("broken, of code " + code, door.send(0), DoorServer.BROKEN);
            check.due("nothing was answered", door.count(0) + door.count(3) + door.count(4) + door.size(), 0);
        }
    }

    private static void forged() {
        DoorServer door = withUsers();
        door.secret(1, P, 40);
        door.draft(1, 1, 1);
        door.name(0);
        door.put(26, 4, 4);
        door.prove(1);
        int n = door.count(5);
        for (int i = 0; i < n; i++) {
            if (i == 0 || i == 2 || i == 3 || i == 21 || i == 26 || i == 32) {
                continue;
            }
            door.spoil(i, 128);
            check.due("code 1 with byte " + i + " spoiled", door.send(1), DoorServer.FORGED);
            door.spoil(i, 128);
        }
        check.due("proved for another station", door.send(0), DoorServer.FORGED);
        check.due("proved for this one", door.send(1), 3);
        door.draft(1, 2, 2);
        door.name(0);
        check.due("without PROOF", door.send(1), DoorServer.FORGED);
        door.seal(1);
        check.due("code 1 that is sealed", door.send(1), DoorServer.FORGED);
        door.secret(1, P, 39);
        door.prove(1);
        door.secret(1, P, 40);
        check.due("proved with an earlier secret", door.send(1), DoorServer.FORGED);

        use(door, 3, 0, 1, 1);
        door.seal(1);
        n = door.count(5);
        for (int i = 0; i < n; i++) {
            if (i == 0 || i == 2 || i == 3 || i == 21 || i == 26 || i == 29) {
                continue;
            }
            door.spoil(i, 128);
            check.due("code 4 with byte " + i + " spoiled", door.send(1), DoorServer.FORGED);
            door.spoil(i, 128);
        }
        check.due("sealed for another station", door.send(2), DoorServer.FORGED);
        check.due("sealed for this one", door.send(1), 5);
        use(door, 4, 0, 1, 1);
        door.prove(1);
        check.due("code 4 that is proved alone", door.send(1), DoorServer.FORGED);
        door.seal(1);
        check.due("code 4 needs no PROOF, and may have one", door.send(1), 5);
    }

    private static void repeated() {
        DoorServer door = withUsers();
        door.draft(1, 9, 1);
        door.name(0);
        door.password(0, P, 9);
        check.due("accepted", proved(door, 0), 2);
        byte[] first = Check.answer(door);
        door.user(0, P, 8);
        check.due("asked again", door.send(0), 2);
        check.due("answered alike", Check.answer(door), first);
        check.due("counted once", door.count(3) * 10 + door.count(4), 11);
        door.ticks(30);
        check.due("30 ticks later", door.send(0), 2);
        door.draft(1, 8, 1);
        door.prove(0);
        check.due("another identifier", door.send(0), 3);
        door.draft(1, 9, 1);
        check.due("a packet with the same authenticator", proved(door, 0), 2);
        check.due("is answered alike", Check.answer(door), first);
        check.due("from another station it is not", proved(door, 1), 3);
        check.due("kept", door.count(0), 3);
        door.ticks(1);
        check.due("31 ticks later", proved(door, 0), 3);
        check.due("what was kept is replaced", door.count(0), 3);
        check.due("counts", door.count(3) * 10 + door.count(4), 43);
        door.draft(1, 9, 2);
        check.due("another authenticator", proved(door, 0), 3);
        check.due("is answered anew", door.count(3), 5);
        door.draft(1, 9, 1);
        check.due("the earlier one is gone", proved(door, 0), 3);
        check.due("so that is answered anew", door.count(3), 6);
        byte[] last = Check.answer(door);
        door.secret(0, 5, 5);
        check.due("what was kept stays, whatever the secret", proved(door, 0), 3);
        check.due("byte for byte", Check.answer(door), last);
        check.due("alike", door.count(4), 4);

        use(door, 20, 0, 7, 3);
        check.due("code 4", sealed(door, 0), 5);
        door.ticks(5);
        check.due("code 4 again", door.send(0), 5);
        check.due("is not written down again", door.record(0, 3), 31);
    }

    /** The server keeps an answer whose request had this authenticator; a packet of code 4 has no NAME. */
    private static void repeatedBeforeMissing() {
        DoorServer door = new DoorServer();
        door.draft(4, 1, 0);
        door.put(44, 1, 1);
        check.due("code 4 without NAME", sealed(door, 0), DoorServer.MISSING);
        check.due("is not kept", door.count(0) + door.count(3) + door.size(), 0);
        byte[] authenticator = Arrays.copyOfRange(Check.draft(door), 4, 20);
        door.draft(1, 1, 0);
        for (int i = 0; i < 16; i++) {
            door.spoil(4 + i, (authenticator[i] & 255) ^ door.spoil(4 + i, 0));
        }
        check.due("code 1 of the same authenticator", proved(door, 0), 3);
        door.draft(4, 1, 0);
        door.put(44, 1, 1);
        check.due("then it counts as repeated", sealed(door, 0), 3);
        check.due("alike", door.count(4), 1);
    }

    private static void keptAnswers() {
        DoorServer door = new DoorServer();
        for (int i = 0; i < 40; i++) {
            door.draft(1, i, 1);
            proved(door, 3);
            check.due("kept", door.count(0), i + 1);
        }
        door.draft(1, 0, 2);
        proved(door, 3);
        check.due("one in place of another", door.count(0), 40);
        door.draft(1, 40, 1);
        proved(door, 3);
        check.due("at most 40", door.count(0), 40);
        door.draft(1, 0, 2);
        proved(door, 3);
        check.due("that in place of another is not the earliest", door.count(4), 1);
        door.draft(1, 2, 1);
        proved(door, 3);
        check.due("the third is still there", door.count(4), 2);
        door.draft(1, 1, 1);
        proved(door, 3);
        check.due("the second has gone", door.count(4), 2);
        door.draft(1, 2, 1);
        proved(door, 3);
        check.due("and now the third", door.count(4), 2);
        door.draft(1, 39, 1);
        door.ticks(1000);
        check.due("what is old is kept", door.count(0), 40);
    }

    private static void names() {
        int[][] names = {{'u', '0', '0'}, {'u', '3', '1'}, {'u', '3', '2'}, {'u', '0', '1'}, {'U', '0', '0'}, {'u', '0'},
            {'u', '0', '0', '0'}, {'u', '0', '0', 0}, {'u', '0', '/'}, {'u', '/', ':'}, {'u', '0' - 1, '0' + 10}, {'u', '2', ':' + 1}, {'u', '9', '9'}};
        for (int i = 0; i < names.length; i++) {
            DoorServer door = withUsers();
            door.draft(1, i, 1);
            door.put(1, names[i].length, 0);
            for (int k = 0; k < names[i].length; k++) {
                door.spoil(22 + k, names[i][k] ^ k);
            }
            door.password(0, P, i == 1 ? 60 : 9);
            check.due("name " + Arrays.toString(names[i]), proved(door, 0), i < 2 ? 2 : 3);
            check.due("without TALK", door.size(), 38);
            dueDigests("name", door, SECRET, true);
        }
        everyName();
        DoorServer door = withUsers();
        door.draft(1, 50, 1);
        door.hello(1);
        check.due("TALK without NAME", proved(door, 0), 3);
        check.due("has no TALK", door.size(), 38);
        door.draft(1, 51, 1);
        door.name(7);
        door.hello(1);
        check.due("TALK of one who was not told", proved(door, 0), 3);
        check.due("has no TALK either", door.size(), 38);
        check.due("nor a trial", door.count(1), 0);
    }

    private static void everyName() {
        for (int tens = '/'; tens <= '4'; tens++) {
            DoorServer door = new DoorServer();
            for (int user = 0; user < 32; user++) {
                door.user(user, P, 9);
            }
            for (int ones = '/'; ones <= ':'; ones++) {
                door.draft(1, ones, 1);
                door.put(1, 3, 0);
                setValue(door, 'u', tens, ones);
                door.password(0, P, 9);
                boolean told = tens >= '0' && ones >= '0' && ones <= '9' && (tens - '0') * 10 + ones - '0' < 32;
                check.due("name u" + (char) tens + (char) ones, proved(door, 0), told ? 2 : 3);
            }
        }
    }

    private static void passwords() {
        for (int n : new int[] {1, 15, 16, 17, 32, 33, 48, 49, 60}) {
            DoorServer door = new DoorServer();
            door.secret(2, -1, 17);
            door.user(4, P, n);
            for (int typed = Math.max(1, n - 1); typed <= Math.min(60, n + 1); typed++) {
                door.draft(1, typed, n);
                door.name(4);
                door.password(2, P, typed);
                check.due("password of " + n + ", typed " + typed, proved(door, 2), typed == n ? 2 : 3);
                dueDigests("password", door, Model.pattern(-1, 17), true);
            }
            door.draft(1, 100, n);
            door.name(4);
            door.password(2, P ^ 1L << 8 * ((n - 1) % 8), n);
            check.due("password of " + n + ", another byte", proved(door, 2), 3);
            door.draft(1, 101, n);
            door.name(4);
            door.password(1, P, n);
            check.due("covered with another secret", proved(door, 2), 3);
            door.draft(1, 102, n);
            door.password(2, P, n);
            door.name(4);
            check.due("PASSWORD before NAME", proved(door, 2), 2);
            door.draft(1, 103, n);
            door.name(4);
            door.password(2, P, n);
            door.hello(9);
            check.due("PASSWORD goes before TALK", proved(door, 2), 2);
            check.due("without TALK in the answer", door.size(), 38);
            door.draft(1, 104, n);
            door.name(4);
            door.password(2, ~P, n);
            door.hello(9);
            check.due("a wrong one too", proved(door, 2), 3);
            check.due("without TALK in the answer", door.size(), 38);
        }
        DoorServer door = withUsers();
        door.draft(1, 0, 0);
        door.name(0);
        byte[] authenticator = Arrays.copyOfRange(Check.draft(door), 4, 20);
        byte[] wide = Model.covered(SECRET, authenticator, Arrays.copyOf(Model.pattern(P, 9), 64));
        door.put(2, 64, 0);
        for (int i = 0; i < 64; i++) {
            door.spoil(27 + i, (wide[i] & 255) ^ i);
        }
        check.due("more zeros behind the password than need be", proved(door, 0), 2);
        door.draft(1, 1, 0);
        door.name(0);
        byte[] empty = Model.covered(SECRET, authenticator, new byte[16]);
        door.put(2, 16, 0);
        for (int i = 0; i < 16; i++) {
            door.spoil(27 + i, (empty[i] & 255) ^ i);
        }
        check.due("zeros alone", proved(door, 0), 3);
        door.draft(1, 2, 0);
        door.name(0);
        check.due("neither PASSWORD nor TALK", proved(door, 0), 3);
        check.due("has no TALK", door.size(), 38);
    }

    private static int ask(DoorServer door, int station, int user, int number) {
        door.draft(1, 200, door.count(3));
        door.name(user);
        door.hello(number);
        return proved(door, station);
    }

    private static void challenges() {
        DoorServer door = withUsers();
        long h = 1;
        for (int mark = 1; mark <= 8; mark++) {
            int number = mark == 2 ? 255 : mark * 30;
            check.due("hello", ask(door, 0, 31, number), 11);
            byte[] drawn = new byte[16];
            for (int i = 0; i < 16; i++) {
                h = h * 6364136223846793005L + 1442695040888963407L;
                drawn[i] = (byte) (h >>> 56);
            }
            byte[] due = Model.join(24, 10, bytes(0, 0, 0, 0, 0, 0, 0, mark), 79, 24, 1, (number + 1) % 256, 0, 22, 4, 16, drawn);
            if (mark == 8) {
                check.due("challenge " + mark, told(door), due);
                dueDigests("challenge", door, SECRET, true);
            }
            check.due("trials", door.count(1), Math.min(mark, 6));
        }
        for (int mark = 1; mark <= 8; mark++) {
            int before = door.count(1);
            door.draft(1, mark, 1);
            door.name(31);
            state(door, mark);
            door.put(79, 5, 0);
            setValue(door, 2, 1, 0, 5, 4);
            check.due("a bad reply to trial " + mark, proved(door, 0), 3);
            check.due("uses it up if it is kept", door.count(1), mark <= 2 ? before : before - 1);
        }
        check.due("no trial is left", door.count(1), 0);
        door.draft(1, 10, 1);
        door.name(31);
        state(door, 0);
        door.put(79, 5, 0);
        setValue(door, 2, 1, 0, 5, 4);
        check.due("mark 0 is of no trial", proved(door, 0), 3);
        check.due("and none is used up", door.count(1), 0);
    }

    private static void state(DoorServer door, int mark) {
        int at = door.put(24, 8, 0) - 8;
        for (int i = 0; i < 8; i++) {
            door.spoil(at + i, i == 7 ? mark ^ 7 : i);
        }
    }

    /** Makes these bytes the value of the last attribute. */
    private static void setValue(DoorServer door, int... value) {
        int at = door.count(5) - value.length;
        for (int i = 0; i < value.length; i++) {
            door.spoil(at + i, door.spoil(at + i, 0) ^ value[i]);
        }
    }

    private static void dueTalk(String what, DoorServer door, int code, int number) {
        check.due(what + ": TALK", told(door), bytes(79, 6, code, number, 0, 4));
        dueDigests(what, door, SECRET, true);
    }

    private static void replies() {
        DoorServer door = withUsers();
        ask(door, 0, 31, 254);
        door.ticks(60);
        answer(door, 31, 60, 1);
        check.due("a reply 60 ticks later", proved(door, 0), 2);
        dueTalk("accept", door, 3, 255);
        check.due("its trial is used up", door.count(1), 0);
        ask(door, 0, 31, 255);
        door.ticks(61);
        answer(door, 31, 60, 2);
        check.due("a reply 61 ticks later", proved(door, 0), 3);
        dueTalk("too late", door, 4, 0);
        check.due("its trial is used up", door.count(1), 0);
        ask(door, 0, 31, 7);
        answer(door, 31, 59, 3);
        check.due("another password", proved(door, 0), 3);
        dueTalk("another password", door, 4, 8);
        check.due("its trial is used up", door.count(1), 0);
        ask(door, 0, 31, 7);
        answer(door, 31, 60, 4);
        door.user(31, P, 59);
        check.due("the password has become another one", proved(door, 0), 3);
        door.user(31, P, 60);
        ask(door, 0, 31, 7);
        answer(door, 31, 60, 5);
        door.spoil(38, 1);
        check.due("another number", proved(door, 0), 3);
        dueTalk("another number", door, 4, 9);
        check.due("its trial is used up", door.count(1), 0);
        ask(door, 0, 31, 7);
        answer(door, 31, 60, 6);
        door.spoil(42, 1);
        check.due("the sixth byte is not 16", proved(door, 0), 3);
        check.due("its trial is used up", door.count(1), 0);
        ask(door, 0, 31, 7);
        answer(door, 31, 60, 7);
        door.spoil(58, 1);
        check.due("another digest", proved(door, 0), 3);
        check.due("its trial is used up", door.count(1), 0);
    }

    private static void answer(DoorServer door, int user, int n, int identifier) {
        door.draft(1, identifier, 1);
        door.name(user);
        door.reply(P, n);
    }

    private static void repliesThatUseNothing() {
        DoorServer door = withUsers();
        ask(door, 0, 31, 7);
        answer(door, 0, 60, 1);
        check.due("of another user", proved(door, 0), 3);
        dueTalk("of another user", door, 4, 8);
        check.due("the trial is kept", door.count(1), 1);
        ask(door, 0, 31, 7);
        answer(door, 31, 60, 2);
        check.due("of another station", proved(door, 1), 3);
        check.due("the trial is kept", door.count(1), 2);
        check.due("then of its own", proved(door, 0), 2);
        check.due("the trial is used up", door.count(1), 1);
        check.due("asked again", door.send(0), 2);
        door.ticks(31);
        check.due("later there is no such trial", door.send(0), 3);
        check.due("the other one is kept", door.count(1), 1);
        ask(door, 0, 31, 7);
        answer(door, 31, 60, 3);
        door.spoil(27, 128);
        check.due("a mark with another first byte", proved(door, 0), 3);
        check.due("is of no trial", door.count(1), 2);
        byte[] made = Check.draft(door);
        door.draft(1, 4, 1);
        door.name(31);
        door.put(79, 22, 0);
        for (int i = 0; i < 22; i++) {
            door.spoil(27 + i, (made[37 + i] & 255) ^ i);
        }
        check.due("without STATE", proved(door, 0), 3);
        dueTalk("without STATE", door, 4, 8);
        check.due("no trial is used up", door.count(1), 2);
    }

    /** A reply that has a byte too many, with a length that says so. */
    private static void longReply() {
        DoorServer door = withUsers();
        ask(door, 0, 31, 7);
        answer(door, 31, 60, 1);
        byte[] made = Check.draft(door);
        door.draft(1, 1, 1);
        door.name(31);
        state(door, 1);
        door.put(79, 23, 0);
        for (int i = 0; i < 23; i++) {
            int due = i == 3 ? 23 : i < 6 ? made[37 + i] : made[36 + i];
            door.spoil(37 + i, (due & 255) ^ i);
        }
        check.due("23 bytes", proved(door, 0), 3);
        check.due("the trial is used up", door.count(1), 0);
    }

    private static void badTalks() {
        int[][] values = {{2, 9, 0, 4}, {2, 9, 0, 6, 1}, {2, 9, 1, 5, 1}, {1, 9, 0, 5, 1}, {3, 9, 0, 5, 1}, {2, 9, 0, 5, 0},
            {2, 9, 0, 5, 2}, {2, 9, 0, 5, 3}, {2, 9, 0, 5, 5}, {2, 9, 0, 5, 255}, {2, 9, 0, 5, 4}, {2, 9, 0, 4, 1}, {2, 9, 5, 0, 1}};
        for (int i = 0; i < values.length; i++) {
            DoorServer door = withUsers();
            door.draft(1, i, 1);
            door.name(0);
            door.put(79, values[i].length, 0);
            setValue(door, values[i]);
            check.due("talk " + Arrays.toString(values[i]), proved(door, 0), 3);
            dueTalk("talk " + Arrays.toString(values[i]), door, 4, 9);
            check.due("no trial", door.count(1), 0);
        }
        DoorServer door = withUsers();
        door.name(0);
        door.put(79, 7, 0);
        setValue(door, 2, 255, 0, 7, 1, 99, 99);
        check.due("a hello with more behind it", proved(door, 0), 11);
        check.due("its number", door.byteAt(33), 0);
    }

    private static void use(DoorServer door, int identifier, int user, int session, int status) {
        door.draft(4, identifier, 0);
        door.name(user);
        door.put(44, 1, session);
        door.number(40, status);
    }

    private static void missing() {
        DoorServer door = new DoorServer();
        for (int without = 0; without < 4; without++) {
            door.draft(4, without, 0);
            if (without != 0) {
                door.put(1, 20, 200);
            }
            if (without != 1) {
                door.put(44, 16, 3);
            }
            if (without != 2) {
                door.number(40, 1);
            }
            check.due("code 4 without " + without, sealed(door, 0), without < 3 ? DoorServer.MISSING : 5);
        }
        dueDigests("code 5", door, SECRET, false);
        check.due("code 5 has no attributes", door.size(), 20);
        byte[] last = Check.answer(door);
        int[] statuses = {0, 1, 2, 3, 4, -1, 256 + 1, 1 << 24};
        for (int status : statuses) {
            use(door, 50 + (status & 15), 0, 100 + (status & 15), status);
            boolean known = status >= 1 && status <= 3;
            check.due("STATUS " + status, sealed(door, 0), known ? 5 : DoorServer.MISSING);
        }
        check.due("written down", door.count(2), 4);
        check.due("answered", door.count(3), 4);
        check.due("the answer to the last that was", door.byteAt(1), 50 + 3);
        check.due("is another than before", Arrays.equals(Check.answer(door), last) ? 1 : 0, 0);
        check.due("the longest NAME's last byte", door.record(0, 8), 219);
        check.due("the longest SESSION", door.record(0, 6), 16);
    }

    private static void dueRecord(String what, DoorServer door, int k, long... due) {
        for (int i = 0; i < due.length; i++) {
            check.due(what + ": record(" + k + ", " + i + ")", door.record(k, i), due[i]);
        }
    }

    private static int tell(DoorServer door, int user, int session, int status, int in, int out) {
        use(door, door.count(3) % 256, user, session, status);
        if (in != 0) {
            door.number(42, in);
        }
        if (out != 0) {
            door.number(43, out);
        }
        return sealed(door, 2);
    }

    private static void records() {
        DoorServer door = new DoorServer();
        door.ticks(10);
        check.due("start", tell(door, 14, 9, 1, 100, 200), 5);
        dueRecord("start", door, 0, 2, 0, 10, 10, 0, 0, 1, 9, '4');
        door.ticks(1);
        tell(door, 15, 9, 1, 100, 200);
        dueRecord("start again", door, 0, 2, 0, 10, 10, 0, 0, 1, 9, '4');
        tell(door, 15, 9, 3, 100, 0);
        dueRecord("IN alone", door, 0, 2, 0, 10, 11, 100, 0, 1, 9, '4');
        door.ticks(1);
        tell(door, 15, 9, 3, 99, 50);
        dueRecord("a smaller IN, a greater OUT", door, 0, 2, 0, 10, 12, 100, 50, 1, 9, '4');
        door.ticks(1);
        tell(door, 15, 9, 3, 0, 0);
        dueRecord("whatever that changed", door, 0, 2, 0, 10, 13, 100, 50, 1, 9, '4');
        door.ticks(1);
        tell(door, 15, 9, 1, 999, 999);
        dueRecord("STATUS 1 changes nothing", door, 0, 2, 0, 10, 13, 100, 50, 1, 9, '4');
        tell(door, 15, 9, 3, -1, 0x7fffffff);
        dueRecord("no sign", door, 0, 2, 0, 10, 14, 4294967295L, 2147483647L, 1, 9, '4');
        door.ticks(1);
        tell(door, 15, 9, 2, 5, -2);
        dueRecord("closed", door, 0, 2, 1, 10, 15, 4294967295L, 4294967294L, 1, 9, '4');
        door.ticks(1);
        for (int status = 1; status <= 3; status++) {
            check.due("answered", tell(door, 15, 9, status, -1, -1), 5);
            dueRecord("closed, it stays", door, 0, 2, 1, 10, 15, 4294967295L, 4294967294L, 1, 9, '4');
        }
        tell(door, 31, 8, 2, 3, 0);
        dueRecord("a stop without a start", door, 0, 2, 1, 16, 16, 3, 0, 1, 8, '1');
        tell(door, 30, 7, 3, 0, 4);
        dueRecord("a change without a start", door, 0, 2, 0, 16, 16, 0, 4, 1, 7, '0');
        check.due("records", door.count(2), 3);
    }

    private static void recordOrder() {
        DoorServer door = new DoorServer();
        int[][] sessions = {{3, 1, 0}, {0, 2, 200}, {0, 1, 200}, {0, 3, 100}, {0, 2, 100}, {1, 1, 255}, {0, 1, 100}, {0, 16, 200}, {0, 1, 127}, {1, 1, 128}};
        for (int i = 0; i < sessions.length; i++) {
            door.draft(4, i, 0);
            door.name(i);
            door.put(44, sessions[i][1], sessions[i][2]);
            door.number(40, 1);
            check.due("a session", sealed(door, sessions[i][0]), 5);
        }
        int[] due = {6, 4, 3, 8, 2, 1, 7, 9, 5, 0};
        for (int k = 0; k < due.length; k++) {
            check.due("place " + k, door.record(k, 8), '0' + due[k]);
            check.due("station at " + k, door.record(k, 0), sessions[due[k]][0]);
            check.due("bytes of SESSION at " + k, door.record(k, 6), sessions[due[k]][1]);
            check.due("first byte of SESSION at " + k, door.record(k, 7), sessions[due[k]][2]);
        }
    }

    private static void mostRecords() {
        DoorServer door = new DoorServer();
        for (int i = 0; i < 50; i++) {
            tell(door, i % 32, 200 - i, 1, 0, 0);
            check.due("records", door.count(2), i + 1);
        }
        for (int status = 1; status <= 3; status++) {
            check.due("one more is answered", tell(door, 1, 250, status, 5, 5), 5);
            check.due("but not written down", door.count(2), 50);
        }
        check.due("answered", door.count(3), 53);
        check.due("the last is as it was", door.record(49, 7), 200);
        check.due("the first too", door.record(0, 7), 151);
        tell(door, 1, 151, 2, 5, 6);
        dueRecord("what is there changes still", door, 0, 2, 1, 0, 0, 5, 6, 1, 151, '7');
    }

    /** send() leaves the draft as it is, whatever becomes of it. */
    private static void draftStays() {
        DoorServer door = withUsers();
        door.draft(1, 1, 1);
        door.name(0);
        door.password(0, P, 9);
        door.prove(0);
        byte[] before = Check.draft(door);
        for (int station = 0; station < 4; station++) {
            door.send(station);
            check.due("the draft after send", Check.draft(door), before);
        }
        use(door, 1, 1, 1, 1);
        door.seal(0);
        before = Check.draft(door);
        door.send(0);
        check.due("the draft after send, of code 4", Check.draft(door), before);
    }

    public static void main(String[] args) {
        whole();
        orderOfRefusals();
        forged();
        repeated();
        repeatedBeforeMissing();
        keptAnswers();
        names();
        passwords();
        challenges();
        replies();
        repliesThatUseNothing();
        longReply();
        badTalks();
        missing();
        records();
        recordOrder();
        mostRecords();
        draftStays();
        check.end();
    }
}
