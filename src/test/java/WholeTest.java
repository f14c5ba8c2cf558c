import java.util.Arrays;

/**
 * Each sentence that says which packets the server takes: whole or BROKEN, OTHER, FORGED, REPEATED, MISSING. On the
 * edge, just below it and just above it; the sentence stands above its test.
 */
public final class WholeTest {
    private static final Check check = new Check();
    private static final long P = Bench.P;
    private static final int[] KNOWN = {1, 2, 24, 40, 42, 43, 44, 79, 80};
    /** A value's length that fits each of the types. */
    private static final int[] FITTING = {3, 16, 8, 4, 4, 4, 2, 5, 16};

    /** A packet of another code is OTHER if it is whole, BROKEN if not: no digest is looked at. */
    private static void dueWhole(String what, boolean whole, Object... attributes) {
        DoorServer door = new DoorServer();
        door.draft(3, 0, 0);
        Bench.attach(door, attributes);
        check.due(what, door.send(0), whole ? DoorServer.OTHER : DoorServer.BROKEN);
    }

    /** "It is WHOLE if it has 20 .. 1000 bytes". (A draft never has less or more.) */
    private static void packetBytes() {
        for (int n : new int[] {20, 23, 24, 999, 1000}) {
            DoorServer door = new DoorServer();
            door.draft(3, 0, 0);
            Bench.fill(door, n);
            check.due("bytes", door.count(5), n);
            check.due("a packet of " + n, door.send(0), DoorServer.OTHER);
        }
        DoorServer door = Bench.filled(1000);
        check.due("one more", Check.thrownBy(() -> door.put(26, 0, 0)), Check.ILLEGAL_STATE);
    }

    /** "LENGTH is how many". */
    private static void packetLength() {
        for (int n : new int[] {20, 255, 256, 257, 1000}) {
            for (int says : new int[] {n - 1, n, n + 1, n - 256, n + 256, 0, 65535}) {
                DoorServer door = new DoorServer();
                door.draft(3, 0, 0);
                Bench.fill(door, n);
                door.spoil(2, (n ^ says) >> 8 & 255);
                door.spoil(3, (n ^ says) & 255);
                int due = says == n ? DoorServer.OTHER : DoorServer.BROKEN;
                check.due("LENGTH " + says + " of " + n + " bytes", door.send(0), due);
            }
        }
    }

    /** "attributes end where it ends". */
    private static void lastAttribute() {
        for (int says = 4; says <= 8; says++) {
            dueWhole("a last attribute of 6 that says " + says, says == 6, 26, says, 0, 0, 0, 0);
        }
        dueWhole("one of 3 that leaves 3", true, 26, 3, 0, 26, 3, 0);
        dueWhole("one of 3 that leaves 2", false, 26, 3, 0, 26, 2);
        dueWhole("one of 3 that leaves 1", false, 26, 3, 0, 3);
        dueWhole("one that says 255 and has them", true, Bench.attribute(26, new byte[253]));
        dueWhole("one that says 255 and has 254", false, 26, 255, new byte[252]);
        dueWhole("one that says 255 and has 256", false, 26, 255, new byte[254]);
        dueWhole("a last one that ends at byte 1000", true, Bench.filling(900), 26, 80, new byte[78]);
        dueWhole("one that leaves the last of 1000", false, Bench.filling(900), 26, 79, new byte[78]);
        dueWhole("one that goes beyond byte 1000", false, Bench.filling(900), 26, 81, new byte[78]);
    }

    /** "and have 3 bytes or more". */
    private static void leastAttribute() {
        for (int says = 0; says <= 4; says++) {
            dueWhole("an attribute of " + says, says >= 3, 26, says, new byte[Math.max(0, says - 2)]);
            dueWhole("an attribute of " + says + ", and one behind it", says >= 3,
                26, says, new byte[Math.max(0, says - 2)], Bench.attribute(26, 1));
        }
        for (int type : KNOWN) {
            dueWhole("type " + type + " without a value", false, Bench.attribute(type));
        }
    }

    /** "none of these types comes twice". */
    private static void twice() {
        for (int i = 0; i < KNOWN.length; i++) {
            byte[] one = Bench.attribute(KNOWN[i], new byte[FITTING[i]]);
            dueWhole("type " + KNOWN[i] + " once", true, one);
            dueWhole("type " + KNOWN[i] + " twice", false, one, one);
            dueWhole("type " + KNOWN[i] + " twice, another between", false, one, Bench.attribute(26, 1), one);
        }
        Object[] all = new Object[KNOWN.length];
        for (int i = 0; i < KNOWN.length; i++) {
            all[i] = Bench.attribute(KNOWN[i], new byte[FITTING[i]]);
        }
        dueWhole("each type once", true, all);
    }

    /** "or has a value of another length: 1 NAME (1 .. 20) .. 44 SESSION (1 .. 16), 79 TALK (4 .. 100)". */
    private static void valuesWithin() {
        int[][] bounds = {{1, 1, 20}, {44, 1, 16}, {79, 4, 100}};
        for (int[] bound : bounds) {
            for (int n : new int[] {0, bound[1] - 1, bound[1], bound[1] + 1, bound[2] - 1, bound[2], bound[2] + 1, 253}) {
                boolean fits = n >= bound[1] && n <= bound[2];
                dueWhole("type " + bound[0] + " of " + n, fits, Bench.attribute(bound[0], new byte[n]));
            }
        }
    }

    /** "2 PASSWORD (16, 32, 48 or 64)". */
    private static void passwordValues() {
        for (int n : new int[] {0, 1, 8, 15, 16, 17, 31, 32, 33, 47, 48, 49, 63, 64, 65, 80, 96, 128}) {
            dueWhole("PASSWORD of " + n, n % 16 == 0 && n >= 16 && n <= 64, Bench.attribute(2, new byte[n]));
        }
    }

    /** "24 STATE (8), 40 STATUS (4), 42 IN (4), 43 OUT (4) .. 80 PROOF (16)". */
    private static void valuesOfOneLength() {
        int[][] lengths = {{24, 8}, {40, 4}, {42, 4}, {43, 4}, {80, 16}};
        for (int[] length : lengths) {
            for (int n : new int[] {0, 1, length[1] - 1, length[1], length[1] + 1, 2 * length[1], 253}) {
                dueWhole("type " + length[0] + " of " + n, n == length[1], Bench.attribute(length[0], new byte[n]));
            }
        }
    }

    /** "Others count for nothing." */
    private static void otherTypes() {
        for (int type = 0; type < 256; type++) {
            int seen = type;
            if (Arrays.stream(KNOWN).anyMatch(known -> known == seen)) {
                continue;
            }
            byte[] shortest = Bench.attribute(type, 0);
            dueWhole("type " + type + " of 1, twice", true, shortest, shortest);
        }
        for (int type : new int[] {0, 3, 23, 25, 39, 41, 45, 78, 81, 255}) {
            dueWhole("type " + type + " of 253", true, Bench.attribute(type, new byte[253]));
            DoorServer door = Bench.withUsers();
            door.name(0);
            Bench.attach(door, Bench.attribute(type, new byte[4]));
            door.password(0, P, 9);
            check.due("a password behind type " + type, Bench.proved(door, 0), 2);
        }
    }

    /** "OTHER: its code is neither 1 nor 4", behind BROKEN. */
    private static void codes() {
        for (int code : new int[] {0, 1, 2, 3, 4, 5, 11, 128 + 1, 128 + 4, 255}) {
            DoorServer door = new DoorServer();
            door.draft(code, 0, 0);
            check.due("code " + code, door.send(0), code == 1 || code == 4 ? DoorServer.FORGED : DoorServer.OTHER);
            door.spoil(3, 1);
            check.due("code " + code + ", not whole", door.send(0), DoorServer.BROKEN);
        }
    }

    /** "FORGED: of code 1: it has no PROOF, or that is not H(s, the packet with its PROOF's 16 bytes 0)". */
    private static void forgedProof() {
        DoorServer door = Bench.withUsers();
        door.draft(1, 1, 1);
        door.name(0);
        check.due("without PROOF", door.send(0), DoorServer.FORGED);
        door.seal(0);
        check.due("sealed, without PROOF", door.send(0), DoorServer.FORGED);
        door.put(80, 16, 0);
        check.due("with another one", door.send(0), DoorServer.FORGED);
        door.prove(0);
        int n = door.count(5);
        for (int i : new int[] {1, 4, 19, 20, 22, 24, n - 16, n - 15, n - 2, n - 1}) {
            for (int x : new int[] {1, 128}) {
                door.spoil(i, x);
                check.due("byte " + i + " ^ " + x, door.send(0), DoorServer.FORGED);
                door.spoil(i, x);
            }
        }
        for (int station = 1; station < 4; station++) {
            check.due("from station " + station, door.send(station), DoorServer.FORGED);
        }
        check.due("nothing was answered", door.count(3), 0);
        check.due("from its own", door.send(0), 3);
    }

    /** A PROOF may stand anywhere: first, between others or last. */
    private static void proofAnywhere() {
        for (int place = 0; place < 3; place++) {
            DoorServer door = Bench.withUsers();
            for (int i = 0; i < 3; i++) {
                if (i == place) {
                    door.put(80, 16, 7);
                }
                if (i == 0) {
                    door.name(0);
                } else if (i == 1) {
                    door.password(0, P, 9);
                }
            }
            check.due("PROOF at place " + place, Bench.proved(door, 0), 2);
        }
    }

    /** "of code 4: the authenticator is not D(the packet with its authenticator's 16 bytes 0, s)." */
    private static void forgedSeal() {
        DoorServer door = new DoorServer();
        door.draft(4, 1, 1);
        door.name(0);
        door.put(44, 2, 7);
        door.number(40, 1);
        check.due("not sealed", door.send(0), DoorServer.FORGED);
        door.prove(0);
        check.due("proved, not sealed", door.send(0), DoorServer.FORGED);
        door.seal(0);
        int n = door.count(5);
        for (int i : new int[] {1, 4, 5, 18, 19, 22, n - 16, n - 1}) {
            for (int x : new int[] {1, 128}) {
                door.spoil(i, x);
                check.due("byte " + i + " ^ " + x, door.send(0), DoorServer.FORGED);
                door.spoil(i, x);
            }
        }
        for (int station = 1; station < 4; station++) {
            check.due("from station " + station, door.send(station), DoorServer.FORGED);
        }
        check.due("nothing was written down", door.count(2) + door.count(3), 0);
        // Its PROOF is not that of the sealed packet: of code 4 none is asked for.
        check.due("from its own", door.send(0), 5);
    }

    /** "REPEATED: .. it was given 30 ticks ago or less". */
    private static void repeatedTicks() {
        for (int n : new int[] {1, 29, 30, 31, 1000}) {
            for (int way = 0; way < 2; way++) {
                DoorServer door = Bench.withUsers();
                if (way == 0) {
                    Bench.ask(door, 0, 31, 1, 7);
                } else {
                    Bench.use(door, 0, 1, Bench.bytes(5), 1);
                }
                byte[] given = Check.answer(door);
                door.ticks(n);
                int code = door.send(0);
                check.due("the code " + n + " ticks later", code, way == 0 ? 11 : 5);
                check.due("answered alike " + n + " ticks later", door.count(4), n <= 30 ? 1 : 0);
                check.due("answered anew", door.count(3), n <= 30 ? 1 : 2);
                check.due("trials", door.count(1), way == 1 ? 0 : n <= 30 ? 1 : 2);
                check.due("byte for byte", Arrays.equals(Check.answer(door), given) ? 1 : 0, n <= 30 || way == 1 ? 1 : 0);
            }
        }
    }

    /** What is answered alike is not given anew: the 30 ticks go on from when it was given. */
    private static void repeatedDoesNotRenew() {
        DoorServer door = Bench.withUsers();
        Bench.ask(door, 0, 31, 1, 7);
        door.ticks(30);
        door.send(0);
        check.due("alike at 30", door.count(4), 1);
        door.ticks(1);
        door.send(0);
        check.due("anew at 31", door.count(4) * 10 + door.count(3), 12);
        door.ticks(30);
        door.send(0);
        check.due("alike 30 ticks after that", door.count(4) * 10 + door.count(3), 22);
    }

    /** "if the server keeps an answer for the station and the identifier". */
    private static void repeatedPlace() {
        DoorServer door = Bench.withUsers();
        door.draft(1, 255, 1);
        Bench.proved(door, 0);
        Bench.proved(door, 3);
        check.due("of another station: anew", door.count(3), 2);
        Bench.proved(door, 3);
        Bench.proved(door, 0);
        check.due("both alike", door.count(4), 2);
        for (int identifier : new int[] {0, 127, 254}) {
            door.draft(1, identifier, 1);
            Bench.proved(door, 0);
        }
        check.due("of other identifiers: anew", door.count(3) * 10 + door.count(4), 52);
    }

    /** "and the authenticator of the packet that it answered was the same". */
    private static void repeatedAuthenticator() {
        for (int i = 0; i < 16; i++) {
            DoorServer door = Bench.withUsers();
            door.draft(1, 9, P);
            Bench.proved(door, 0);
            door.spoil(4 + i, 1);
            Bench.proved(door, 0);
            check.due("another byte " + i, door.count(3) * 10 + door.count(4), 20);
            Bench.proved(door, 0);
            check.due("that once more", door.count(3) * 10 + door.count(4), 21);
            door.spoil(4 + i, 1);
            Bench.proved(door, 0);
            check.due("the first was replaced", door.count(3) * 10 + door.count(4), 31);
        }
    }

    /** "it is answered alike, byte for byte, and nothing else happens." */
    private static void repeatedChangesNothing() {
        DoorServer door = Bench.withUsers();
        Bench.use(door, 0, 5, Bench.bytes(5), 3, Bench.attribute(42, Bench.big(9, 4)));
        byte[] given = Check.answer(door);
        byte[] sent = Check.draft(door);
        Bench.ask(door, 0, 31, 6, 7);
        door.ticks(3);
        door.draft(4, 5, 0);
        Bench.attach(door, Arrays.copyOfRange(sent, 20, sent.length));
        check.due("the session again", Bench.sealed(door, 0), 5);
        check.due("is answered alike", Check.answer(door), given);
        check.due("the latest change", door.record(0, 3), 0);
        int[] due = {2, 1, 1, 2, 1};
        for (int what = 0; what < due.length; what++) {
            check.due("count(" + what + ")", door.count(what), due[what]);
        }
    }

    /** "in this order": FORGED goes before REPEATED, and REPEATED before MISSING. */
    private static void repeatedInOrder() {
        DoorServer door = Bench.withUsers();
        Bench.ask(door, 0, 31, 1, 7);
        door.spoil(door.count(5) - 1, 1);
        check.due("the same with another PROOF", door.send(0), DoorServer.FORGED);
        door.spoil(door.count(5) - 1, 1);
        check.due("the same", door.send(0), 11);
        check.due("answered alike", door.count(4), 1);

        door.draft(4, 2, 0);
        check.due("a packet without anything", Bench.sealed(door, 0), DoorServer.MISSING);
        byte[] authenticator = Arrays.copyOfRange(Check.draft(door), 4, 20);
        door.draft(1, 2, 0);
        for (int i = 0; i < 16; i++) {
            door.spoil(4 + i, door.spoil(4 + i, 0) ^ authenticator[i] & 255);
        }
        check.due("another of its identifier and authenticator", Bench.proved(door, 0), 3);
        door.draft(4, 2, 0);
        check.due("then it is REPEATED", Bench.sealed(door, 0), 3);
        check.due("answered alike", door.count(4), 2);
    }

    /** "MISSING: it has no NAME, SESSION or STATUS". */
    private static void missing() {
        for (int without = 0; without < 8; without++) {
            DoorServer door = new DoorServer();
            door.draft(4, 0, 0);
            if ((without & 1) == 0) {
                door.put(1, 1, 0);
            }
            if ((without & 2) == 0) {
                door.put(44, 1, 0);
            }
            if ((without & 4) == 0) {
                door.number(40, 3);
            }
            check.due("without " + without, Bench.sealed(door, 0), without == 0 ? 5 : DoorServer.MISSING);
            int n = without == 0 ? 1 : 0;
            check.due("answers kept, records, answered, bytes of an answer",
                door.count(0) * 1000 + door.count(2) * 100 + door.count(3) * 10 + door.size(), n == 1 ? 1130 : 0);
        }
    }

    /** "or STATUS is not 1, 2 or 3." */
    private static void statuses() {
        int[] statuses = {0, 1, 2, 3, 4, 255, 256, 257, 65537, 0x01000001, 0x02000000, -1, Integer.MIN_VALUE, Integer.MIN_VALUE + 1};
        for (int status : statuses) {
            DoorServer door = new DoorServer();
            boolean fine = status >= 1 && status <= 3;
            check.due("STATUS " + status, Bench.use(door, 0, 1, Bench.bytes(1), status), fine ? 5 : DoorServer.MISSING);
            check.due("records", door.count(2), fine ? 1 : 0);
        }
    }

    /** "answered by code 5, without attributes." */
    private static void written() {
        DoorServer door = new DoorServer();
        check.due("code", Bench.use(door, 2, 255, Bench.row(16, 1), 1), 5);
        byte[] asked = Arrays.copyOfRange(Check.draft(door), 4, 20);
        byte[] due = Model.join(5, 255, 0, 20, asked);
        check.due("the answer", Check.answer(door), Model.with(due, 4, Model.md5(due, 51)));
    }

    public static void main(String[] args) {
        packetBytes();
        packetLength();
        lastAttribute();
        leastAttribute();
        twice();
        valuesWithin();
        passwordValues();
        valuesOfOneLength();
        otherTypes();
        codes();
        forgedProof();
        proofAnywhere();
        forgedSeal();
        repeatedTicks();
        repeatedDoesNotRenew();
        repeatedPlace();
        repeatedAuthenticator();
        repeatedChangesNothing();
        repeatedInOrder();
        missing();
        statuses();
        written();
        check.end();
    }
}
