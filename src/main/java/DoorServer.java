import java.util.Arrays;

/** A server that lets users in, and the side of the stations that ask it; see the document's promises. */
public final class DoorServer {
    public static final int NONE = -1;
    public static final int BROKEN = -2;
    public static final int OTHER = -3;
    public static final int FORGED = -4;
    public static final int MISSING = -5;

    private static final int STATIONS = 4;
    private static final int USERS = 32;
    private static final int MOST_SECRET = 40;
    private static final int MOST_PASSWORD = 60;
    private static final int MOST_PUT = 100;
    private static final int MOST_TICKS = 1000;
    private static final int LAST_TIME = 1000000;

    private static final int HEAD = 20;
    private static final int MOST_PACKET = 1000;
    /** A CHALLENGE is the longest answer: the head, STATE, TALK and PROOF. */
    private static final int MOST_ANSWER = HEAD + 10 + 24 + 18;
    private static final int AUTHENTICATOR = 4;
    private static final int DIGEST = 16;

    private static final int ACCESS = 1;
    private static final int ACCEPT = 2;
    private static final int REJECT = 3;
    private static final int ACCOUNTING = 4;
    private static final int WRITTEN = 5;
    private static final int CHALLENGE = 11;

    private static final int NAME = 1;
    private static final int PASSWORD = 2;
    private static final int STATE = 24;
    private static final int STATUS = 40;
    private static final int IN = 42;
    private static final int OUT = 43;
    private static final int SESSION = 44;
    private static final int TALK = 79;
    private static final int PROOF = 80;

    private static final int STATE_BYTES = 8;
    private static final int TALK_HEAD = 4;
    /** The bytes of a TALK that carries 16 bytes, drawn or digested. */
    private static final int TALK_LONG = 22;
    private static final int KIND_HELLO = 1;
    private static final int KIND_REPLY = 4;

    private final Packet draft;
    private final Server server;

    public DoorServer() {
        draft = new Packet(MOST_PACKET);
        draft.begin(ACCESS, 0);
        draft.setAuthenticator(0L);
        server = new Server(draft);
    }

    public void secret(int station, long p, int n) throws IllegalArgumentException {
        requireStation(station);
        requireWithin(n, 1, MOST_SECRET);
        server.secrets[station].become(p, n);
    }

    public boolean user(int user, long p, int n) throws IllegalArgumentException {
        requireUser(user);
        requireWithin(n, 1, MOST_PASSWORD);
        boolean isNew = !server.isTold(user);
        server.passwords[user].become(p, n);
        return isNew;
    }

    public void draft(int code, int identifier, long seed) throws IllegalArgumentException {
        requireByte(code);
        requireByte(identifier);
        draft.begin(code, identifier);
        draft.setAuthenticator(seed);
    }

    public int put(int type, int n, int b) throws IllegalArgumentException, IllegalStateException {
        requireByte(type);
        requireByte(b);
        requireWithin(n, 0, MOST_PUT);
        requireRoom(n);
        draft.open(type, n);
        for (int i = 0; i < n; i++) {
            draft.append(b + i);
        }
        return closedDraft();
    }

    public int number(int type, int v) throws IllegalArgumentException, IllegalStateException {
        requireByte(type);
        requireRoom(4);
        draft.open(type, 4);
        draft.appendNumber(v, 4);
        return closedDraft();
    }

    public int name(int user) throws IllegalArgumentException, IllegalStateException {
        requireUser(user);
        requireRoom(3);
        draft.open(NAME, 3);
        draft.append('u');
        draft.append('0' + user / 10);
        draft.append('0' + user % 10);
        return closedDraft();
    }

    public int password(int station, long p, int n) throws IllegalArgumentException, IllegalStateException {
        requireStation(station);
        requireWithin(n, 1, MOST_PASSWORD);
        int padded = (n + 15) / 16 * 16;
        requireRoom(padded);
        draft.open(PASSWORD, padded);
        int at = draft.length;
        draft.appendPattern(p, n);
        draft.appendZeros(padded - n);
        server.digests.cover(server.secrets[station], draft, at, padded);
        return closedDraft();
    }

    public int hello(int number) throws IllegalArgumentException, IllegalStateException {
        requireByte(number);
        requireRoom(5);
        draft.openTalk(2, number, 5);
        draft.append(KIND_HELLO);
        return closedDraft();
    }

    public int reply(long p, int n) throws IllegalArgumentException, IllegalStateException {
        requireWithin(n, 1, MOST_PASSWORD);
        Packet challenge = server.answer;
        // Before the first answer its row has 0 there, which is no CHALLENGE either.
        if (challenge.row[0] != CHALLENGE) {
            return NONE;
        }
        // STATE and TALK come together or not at all, so the room is asked for once.
        requireRoom(STATE_BYTES + 2 + TALK_LONG);
        int mark = HEAD + 2;
        int talk = mark + STATE_BYTES + 2;
        int number = challenge.row[talk + 1];
        server.typed.become(p, n);
        draft.open(STATE, STATE_BYTES);
        draft.appendRow(challenge.row, mark, STATE_BYTES);
        draft.openTalk(2, number, TALK_LONG);
        draft.append(KIND_REPLY);
        draft.append(DIGEST);
        draft.appendRow(server.digests.ofReply(number, server.typed, challenge.row, talk + 6), 0, DIGEST);
        return closedDraft();
    }

    public int prove(int station) throws IllegalArgumentException, IllegalStateException {
        requireStation(station);
        if (draft.findValue(PROOF, DIGEST) == NONE) {
            requireRoom(DIGEST);
            draft.open(PROOF, DIGEST);
            draft.appendZeros(DIGEST);
        }
        draft.tellLength();
        int at = firstProof();
        draft.write(at, server.digests.ofProof(server.secrets[station], draft, at));
        return draft.length;
    }

    public void seal(int station) throws IllegalArgumentException {
        requireStation(station);
        draft.tellLength();
        draft.write(AUTHENTICATOR, server.digests.ofSeal(server.secrets[station], draft));
    }

    public int spoil(int i, int x) throws IllegalArgumentException {
        requireWithin(i, 0, draft.length - 1);
        requireByte(x);
        draft.row[i] ^= x;
        return draft.row[i];
    }

    public int send(int station) throws IllegalArgumentException {
        requireStation(station);
        return server.take(station);
    }

    public int size() {
        return server.answer.length;
    }

    public int byteAt(int i) throws IllegalArgumentException {
        requireWithin(i, 0, server.answer.length - 1);
        return server.answer.row[i];
    }

    public int ticks(int n) throws IllegalArgumentException {
        requireWithin(n, 1, MOST_TICKS);
        requireWithin(server.time + n, 0, LAST_TIME);
        server.time += n;
        return server.time;
    }

    public int count(int what) throws IllegalArgumentException {
        switch (what) {
            case 0: return server.answers.kept;
            case 1: return server.trials.kept;
            case 2: return server.sessions.kept;
            case 3: return server.anew;
            case 4: return server.alike;
            case 5: return draft.length;
            default: throw new IllegalArgumentException();
        }
    }

    public long record(int k, int what) throws IllegalArgumentException {
        requireWithin(k, 0, server.sessions.kept - 1);
        Session session = server.sessions.sorted[k];
        switch (what) {
            case 0: return session.station;
            case 1: return session.closed ? 1 : 0;
            case 2: return session.cameAt;
            case 3: return session.changedAt;
            case 4: return session.in;
            case 5: return session.out;
            case 6: return session.label.length;
            case 7: return session.label.row[0];
            case 8: return session.lastOfName;
            default: throw new IllegalArgumentException();
        }
    }

    private static void requireWithin(int v, int least, int most) {
        if (v < least || v > most) {
            throw new IllegalArgumentException();
        }
    }

    private static void requireByte(int v) {
        requireWithin(v, 0, 255);
    }

    private static void requireStation(int station) {
        requireWithin(station, 0, STATIONS - 1);
    }

    private static void requireUser(int user) {
        requireWithin(user, 0, USERS - 1);
    }

    /** Asks whether an attribute with a value of n bytes still goes into the draft. */
    private void requireRoom(int n) {
        if (draft.length + 2 + n > MOST_PACKET) {
            throw new IllegalStateException();
        }
    }

    /**
     * Where the PROOF stands that is made right, one being there. It is looked for when the draft is as long as it
     * will be: an attribute that went beyond the end may end within it by what came. Where none is reached, it is
     * the one that came.
     */
    private int firstProof() {
        int at = draft.findValue(PROOF, DIGEST);
        return at == NONE ? draft.length - DIGEST : at;
    }

    private int closedDraft() {
        draft.tellLength();
        return draft.length;
    }

    /** Bytes one behind the other, in a row that is made once and used again. */
    private static class Bytes {
        final int[] row;
        int length;

        Bytes(int most) {
            row = new int[most];
        }

        final void append(int b) {
            if (length < row.length) {
                row[length] = b & 255;
                length++;
            }
        }

        final void appendZeros(int n) {
            for (int i = 0; i < n; i++) {
                append(0);
            }
        }

        /** The n lowest bytes of a number, the highest of them first. */
        final void appendNumber(long v, int n) {
            for (int i = n - 1; i >= 0; i--) {
                append((int) (v >>> 8 * i));
            }
        }

        /** The bytes by which secrets and passwords are told. */
        final void appendPattern(long p, int n) {
            for (int k = 0; k < n; k++) {
                append(33 + (int) ((p >> 8 * (k % 8)) & 63));
            }
        }

        final void appendRow(int[] from, int at, int n) {
            if (n <= row.length - length && at >= 0 && n <= from.length - at) {
                System.arraycopy(from, at, row, length, n);
                length += n;
            }
        }

        final void become(long p, int n) {
            length = 0;
            appendPattern(p, n);
        }

        final void becomeRow(int[] from, int at, int n) {
            length = 0;
            appendRow(from, at, n);
        }

        /** 16 bytes of another row, each ^ one of a mask. */
        final void appendMasked(int[] from, int at, int[] mask) {
            for (int i = 0; i < DIGEST; i++) {
                append(from[at + i] ^ mask[i]);
            }
        }

        final void dropZerosBehind() {
            while (length > 0 && row[length - 1] == 0) {
                length--;
            }
        }

        final boolean isAlike(Bytes other) {
            return length == other.length && standsAt(row, other, 0, length);
        }

        /** Whether the first n bytes of a row stand among others, from a place on. */
        static boolean standsAt(int[] first, Bytes others, int at, int n) {
            for (int i = 0; i < n; i++) {
                if (first[i] != others.row[at + i]) {
                    return false;
                }
            }
            return true;
        }
    }

    /** A packet in the making: a head of 20 bytes, then attributes. */
    private static final class Packet extends Bytes {
        Packet(int most) {
            super(most);
        }

        void begin(int code, int identifier) {
            length = 0;
            append(code);
            append(identifier);
            appendNumber(HEAD, 2);
            appendZeros(DIGEST);
        }

        void setAuthenticator(long seed) {
            for (int i = 0; i < 8; i++) {
                int b = (int) (seed >>> 8 * i) & 255;
                row[AUTHENTICATOR + i] = b;
                row[AUTHENTICATOR + 8 + i] = b ^ 90;
            }
        }

        void write(int at, int[] digest) {
            System.arraycopy(digest, 0, row, at, DIGEST);
        }

        void open(int type, int n) {
            append(type);
            append(n + 2);
        }

        void openTalk(int code, int number, int n) {
            open(TALK, n);
            append(code);
            append(number);
            appendNumber(n, 2);
        }

        void tellLength() {
            row[2] = length >> 8;
            row[3] = length & 255;
        }

        /** Where the value of the first attribute of a type and n bytes begins, NONE if none is reached. */
        int findValue(int type, int n) {
            int i = HEAD;
            while (i + 2 <= length) {
                int taken = row[i + 1];
                if (taken < 2 || i + taken > length) {
                    return NONE;
                }
                if (row[i] == type && taken == n + 2) {
                    return i + 2;
                }
                i += taken;
            }
            return NONE;
        }
    }

    /** The digests of the document. What they answer is one row, good until the next of them is asked for. */
    private static final class Digests {
        private static final int BLOCK = 64;
        /** The longest text is a packet behind a key, with 9 bytes or more to fill its last block. */
        private static final int MOST_TEXT = BLOCK + MOST_PACKET + 2 * BLOCK;
        private static final int[] SINES = {
            0xd76aa478, 0xe8c7b756, 0x242070db, 0xc1bdceee,
            0xf57c0faf, 0x4787c62a, 0xa8304613, 0xfd469501,
            0x698098d8, 0x8b44f7af, 0xffff5bb1, 0x895cd7be,
            0x6b901122, 0xfd987193, 0xa679438e, 0x49b40821,
            0xf61e2562, 0xc040b340, 0x265e5a51, 0xe9b6c7aa,
            0xd62f105d, 0x02441453, 0xd8a1e681, 0xe7d3fbc8,
            0x21e1cde6, 0xc33707d6, 0xf4d50d87, 0x455a14ed,
            0xa9e3e905, 0xfcefa3f8, 0x676f02d9, 0x8d2a4c8a,
            0xfffa3942, 0x8771f681, 0x6d9d6122, 0xfde5380c,
            0xa4beea44, 0x4bdecfa9, 0xf6bb4b60, 0xbebfbc70,
            0x289b7ec6, 0xeaa127fa, 0xd4ef3085, 0x04881d05,
            0xd9d4d039, 0xe6db99e5, 0x1fa27cf8, 0xc4ac5665,
            0xf4292244, 0x432aff97, 0xab9423a7, 0xfc93a039,
            0x655b59c3, 0x8f0ccc92, 0xffeff47d, 0x85845dd1,
            0x6fa87e4f, 0xfe2ce6e0, 0xa3014314, 0x4e0811a1,
            0xf7537e82, 0xbd3af235, 0x2ad7d2bb, 0xeb86d391,
        };
        /** How far each step turns its sum: four ways for each of the four rounds. */
        private static final int[] TURNS = {7, 12, 17, 22, 5, 9, 14, 20, 4, 11, 16, 23, 6, 10, 15, 21};

        private final Bytes text = new Bytes(MOST_TEXT);
        private final int[] words = new int[16];
        private final int[] digest = new int[DIGEST];
        private int a;
        private int b;
        private int c;
        private int d;

        /** H over a packet whose 16 bytes at a place count as 0. */
        int[] ofProof(Bytes secret, Bytes packet, int at) {
            startWithKey(secret, 54);
            appendBlanked(packet, at);
            digestText();
            startWithKey(secret, 92);
            text.appendRow(digest, 0, DIGEST);
            return digestText();
        }

        /** What the authenticator of a packet of code 4 must be. */
        int[] ofSeal(Bytes secret, Bytes packet) {
            text.length = 0;
            appendBlanked(packet, AUTHENTICATOR);
            text.appendRow(secret.row, 0, secret.length);
            return digestText();
        }

        /** What the authenticator of an answer becomes that still has the request's. */
        int[] ofAnswer(Bytes secret, Bytes packet) {
            text.becomeRow(packet.row, 0, packet.length);
            text.appendRow(secret.row, 0, secret.length);
            return digestText();
        }

        int[] ofReply(int number, Bytes password, int[] drawn, int at) {
            text.length = 0;
            text.append(number);
            text.appendRow(password.row, 0, password.length);
            text.appendRow(drawn, at, DIGEST);
            return digestText();
        }

        /** Covers n bytes of a packet where they stand. */
        void cover(Bytes secret, Bytes packet, int at, int n) {
            for (int k = 0; k < n; k += DIGEST) {
                int[] mask = ofMask(secret, packet, at, k);
                for (int i = 0; i < DIGEST; i++) {
                    packet.row[at + k + i] ^= mask[i];
                }
            }
        }

        /** What the 16 bytes at at + k are covered with: it hangs on those before them, as they were covered. */
        int[] ofMask(Bytes secret, Bytes packet, int at, int k) {
            text.becomeRow(secret.row, 0, secret.length);
            text.appendRow(packet.row, k == 0 ? AUTHENTICATOR : at + k - DIGEST, DIGEST);
            return digestText();
        }

        private void startWithKey(Bytes secret, int x) {
            text.length = 0;
            for (int i = 0; i < BLOCK; i++) {
                text.append((i < secret.length ? secret.row[i] : 0) ^ x);
            }
        }

        private void appendBlanked(Bytes packet, int at) {
            int from = text.length + at;
            text.appendRow(packet.row, 0, packet.length);
            Arrays.fill(text.row, from, from + DIGEST, 0);
        }

        private int[] digestText() {
            int n = text.length;
            int end = (n + 9 + BLOCK - 1) / BLOCK * BLOCK;
            Arrays.fill(text.row, n, end, 0);
            text.row[n] = 128;
            // The texts are short: how many bits they have goes into the two lowest bytes of eight.
            text.row[end - 8] = n * 8 & 255;
            text.row[end - 7] = n * 8 >> 8;
            a = 0x67452301;
            b = 0xefcdab89;
            c = 0x98badcfe;
            d = 0x10325476;
            for (int at = 0; at < end; at += BLOCK) {
                mixBlock(at);
            }
            for (int i = 0; i < 4; i++) {
                digest[i] = a >>> 8 * i & 255;
                digest[4 + i] = b >>> 8 * i & 255;
                digest[8 + i] = c >>> 8 * i & 255;
                digest[12 + i] = d >>> 8 * i & 255;
            }
            return digest;
        }

        private void mixBlock(int at) {
            int[] row = text.row;
            for (int i = 0; i < 16; i++) {
                int k = at + 4 * i;
                words[i] = row[k] | row[k + 1] << 8 | row[k + 2] << 16 | row[k + 3] << 24;
            }
            int p = a;
            int q = b;
            int r = c;
            int s = d;
            for (int i = 0; i < 64; i++) {
                int round = i >> 4;
                int mixed;
                int word;
                if (round == 0) {
                    mixed = q & r | ~q & s;
                    word = i;
                } else if (round == 1) {
                    mixed = q & s | r & ~s;
                    word = 5 * i + 1 & 15;
                } else if (round == 2) {
                    mixed = q ^ r ^ s;
                    word = 3 * i + 5 & 15;
                } else {
                    mixed = r ^ (q | ~s);
                    word = 7 * i & 15;
                }
                int sum = p + mixed + words[word] + SINES[i];
                int turn = TURNS[4 * round + (i & 3)];
                p = s;
                s = r;
                r = q;
                q += sum << turn | sum >>> 32 - turn;
            }
            a += p;
            b += q;
            c += r;
            d += s;
        }
    }

    /** What a packet says, once it has been found whole. */
    private static final class Request {
        final Packet packet;
        /** By type: where the value begins; 0 for an attribute that is not there. */
        private final int[] starts = new int[256];

        Request(Packet packet) {
            this.packet = packet;
        }

        boolean isWhole() {
            Arrays.fill(starts, 0);
            int end = packet.length;
            if (end < HEAD || end > MOST_PACKET || packet.row[2] * 256 + packet.row[3] != end) {
                return false;
            }
            int i = HEAD;
            while (i < end) {
                // The byte that tells the length must be there before it is read.
                int taken = i + 3 <= end ? packet.row[i + 1] : 0;
                if (taken < 3 || i + taken > end || !takes(packet.row[i], i + 2, taken - 2)) {
                    return false;
                }
                i += taken;
            }
            return true;
        }

        private boolean takes(int type, int at, int n) {
            if (!isKnown(type)) {
                return true;
            }
            if (starts[type] > 0 || !fits(type, n)) {
                return false;
            }
            starts[type] = at;
            return true;
        }

        private static boolean isKnown(int type) {
            return type == NAME || type == PASSWORD || type == STATE || type == STATUS || type == IN
                || type == OUT || type == SESSION || type == TALK || type == PROOF;
        }

        private static boolean fits(int type, int n) {
            switch (type) {
                case NAME: return n >= 1 && n <= 20;
                case PASSWORD: return n == 16 || n == 32 || n == 48 || n == 64;
                case STATE: return n == STATE_BYTES;
                case SESSION: return n >= 1 && n <= 16;
                case TALK: return n >= 4 && n <= 100;
                case PROOF: return n == DIGEST;
                default: return n == 4;
            }
        }

        boolean has(int type) {
            return starts[type] > 0;
        }

        int startOf(int type) {
            return starts[type];
        }

        /** How many bytes the value has, of an attribute that is there. */
        int lengthOf(int type) {
            return packet.row[starts[type] - 1] - 2;
        }

        int byteOf(int type, int i) {
            return packet.row[starts[type] + i];
        }

        /** The value as a number without sign; 0 if it is not there. */
        long numberOf(int type) {
            long v = 0;
            int n = has(type) ? lengthOf(type) : 0;
            for (int i = 0; i < n; i++) {
                v = v << 8 | byteOf(type, i);
            }
            return v;
        }

        int code() {
            return packet.row[0];
        }

        int identifier() {
            return packet.row[1];
        }

        /** Whose NAME it has: a user's number, told or not, or NONE. */
        int namedUser() {
            if (!has(NAME) || lengthOf(NAME) != 3 || byteOf(NAME, 0) != 'u') {
                return NONE;
            }
            int tens = byteOf(NAME, 1) - '0';
            int ones = byteOf(NAME, 2) - '0';
            if (tens < 0 || tens > 9 || ones < 0 || ones > 9 || 10 * tens + ones >= USERS) {
                return NONE;
            }
            return 10 * tens + ones;
        }

        /** The kind of its TALK, which is there; NONE if that is not as a station's TALK must be. */
        int talkKind() {
            int n = lengthOf(TALK);
            boolean fitting = byteOf(TALK, 2) * 256 + byteOf(TALK, 3) == n;
            return n >= 5 && fitting && byteOf(TALK, 0) == 2 ? byteOf(TALK, 4) : NONE;
        }

        int talkNumber() {
            return byteOf(TALK, 1);
        }
    }

    /** An answer that is kept, so that what is asked again is answered alike. */
    private static final class Kept {
        int station;
        int identifier;
        int givenAt;
        /** Counts answers as they are given: time alone does not tell which was earlier. */
        int turn;
        final int[] asked = new int[DIGEST];
        final Bytes answer = new Bytes(MOST_ANSWER);
    }

    private static final class Answers {
        private static final int MOST = 40;
        private final Kept[] places = new Kept[MOST];
        private int turns;
        int kept;

        Answers() {
            for (int i = 0; i < MOST; i++) {
                places[i] = new Kept();
            }
        }

        /** The answer kept for a station and an identifier, or null. */
        Kept find(int station, int identifier) {
            for (int i = 0; i < kept; i++) {
                if (places[i].station == station && places[i].identifier == identifier) {
                    return places[i];
                }
            }
            return null;
        }

        void keep(int station, Request request, int time, Packet answer) {
            Kept place = find(station, request.identifier());
            if (place == null) {
                place = freePlace();
            }
            turns++;
            place.turn = turns;
            place.station = station;
            place.identifier = request.identifier();
            place.givenAt = time;
            System.arraycopy(request.packet.row, AUTHENTICATOR, place.asked, 0, DIGEST);
            place.answer.becomeRow(answer.row, 0, answer.length);
        }

        private Kept freePlace() {
            if (kept < MOST) {
                kept++;
                return places[kept - 1];
            }
            Kept earliest = places[0];
            for (int i = 1; i < MOST; i++) {
                if (places[i].turn < earliest.turn) {
                    earliest = places[i];
                }
            }
            return earliest;
        }
    }

    /** A challenge that was given and is not used up. */
    private static final class Trial {
        boolean open;
        long mark;
        int station;
        int user;
        int number;
        int givenAt;
        final int[] drawn = new int[DIGEST];
    }

    private static final class Trials {
        private static final int MOST = 6;
        private final Trial[] places = new Trial[MOST];
        private long marks;
        private long drawing = 1;
        int kept;

        Trials() {
            for (int i = 0; i < MOST; i++) {
                places[i] = new Trial();
            }
        }

        Trial give(int station, int user, int number, int time) {
            Trial trial = freePlace();
            marks++;
            trial.open = true;
            trial.mark = marks;
            trial.station = station;
            trial.user = user;
            trial.number = number;
            trial.givenAt = time;
            for (int i = 0; i < DIGEST; i++) {
                drawing = drawing * 6364136223846793005L + 1442695040888963407L;
                trial.drawn[i] = (int) (drawing >>> 56);
            }
            return trial;
        }

        /** Takes a trial out of those that are kept: it is good for one reply. Null if there is none such. */
        Trial take(long mark, int station, int user) {
            for (int i = 0; i < MOST; i++) {
                Trial trial = places[i];
                if (trial.open && trial.mark == mark && trial.station == station && trial.user == user) {
                    trial.open = false;
                    kept--;
                    return trial;
                }
            }
            return null;
        }

        private Trial freePlace() {
            Trial earliest = places[0];
            for (int i = 0; i < MOST; i++) {
                if (!places[i].open) {
                    kept++;
                    return places[i];
                }
                if (places[i].mark < earliest.mark) {
                    earliest = places[i];
                }
            }
            return earliest;
        }
    }

    /** What a user used, as a station told it: one record. */
    private static final class Session {
        int station;
        final Bytes label = new Bytes(16);
        int lastOfName;
        boolean closed;
        int cameAt;
        int changedAt;
        long in;
        long out;

        /** Below 0, 0 or above 0: this record stands before, at or behind that of the request. */
        int compareWith(int otherStation, Request request) {
            if (station != otherStation) {
                return station - otherStation;
            }
            int n = request.lengthOf(SESSION);
            for (int i = 0; i < label.length && i < n; i++) {
                int difference = label.row[i] - request.byteOf(SESSION, i);
                if (difference != 0) {
                    return difference;
                }
            }
            return label.length - n;
        }

        /** A record comes once in its life: it is still open, and IN and OUT are 0. */
        void come(int ofStation, Request request, int time) {
            station = ofStation;
            label.becomeRow(request.packet.row, request.startOf(SESSION), request.lengthOf(SESSION));
            lastOfName = request.byteOf(NAME, request.lengthOf(NAME) - 1);
            cameAt = time;
            changedAt = time;
        }

        /** STATUS 2 or 3, of a record that is open. What is not told counts 0, which is never greater. */
        void change(Request request, int time, boolean closing) {
            changedAt = time;
            in = Math.max(in, request.numberOf(IN));
            out = Math.max(out, request.numberOf(OUT));
            closed = closing;
        }
    }

    private static final class Sessions {
        private static final int MOST = 50;
        /** The records in their order, then those that are not used yet. */
        final Session[] sorted = new Session[MOST];
        int kept;

        Sessions() {
            for (int i = 0; i < MOST; i++) {
                sorted[i] = new Session();
            }
        }

        void write(int station, Request request, int time) {
            int at = placeOf(station, request);
            if (at == kept || sorted[at].compareWith(station, request) != 0) {
                if (kept == MOST) {
                    return;
                }
                makeRoom(at);
                sorted[at].come(station, request, time);
            }
            long status = request.numberOf(STATUS);
            if (status != 1 && !sorted[at].closed) {
                sorted[at].change(request, time, status == 2);
            }
        }

        /** How many records stand before that of the request. */
        private int placeOf(int station, Request request) {
            int at = 0;
            while (at < kept && sorted[at].compareWith(station, request) < 0) {
                at++;
            }
            return at;
        }

        private void makeRoom(int at) {
            Session unused = sorted[kept];
            for (int i = kept; i > at; i--) {
                sorted[i] = sorted[i - 1];
            }
            sorted[at] = unused;
            kept++;
        }
    }

    /** The server's side: what becomes of a packet. */
    private static final class Server {
        private static final int REPEAT_TICKS = 30;
        private static final int TRIAL_TICKS = 60;

        final Bytes[] secrets = new Bytes[STATIONS];
        final Bytes[] passwords = new Bytes[USERS];
        final Digests digests = new Digests();
        /** A password as somebody typed it: for the one call that needs it. */
        final Bytes typed = new Bytes(64);
        final Packet answer = new Packet(MOST_ANSWER);
        final Answers answers = new Answers();
        final Trials trials = new Trials();
        final Sessions sessions = new Sessions();
        private final Request request;
        int time;
        int anew;
        int alike;

        Server(Packet packet) {
            request = new Request(packet);
            for (int i = 0; i < STATIONS; i++) {
                secrets[i] = new Bytes(MOST_SECRET);
                secrets[i].append(49 + i);
            }
            for (int i = 0; i < USERS; i++) {
                passwords[i] = new Bytes(MOST_PASSWORD);
            }
        }

        boolean isTold(int user) {
            return passwords[user].length > 0;
        }

        /** The code of the answer, or why there is none. */
        int take(int station) {
            if (!request.isWhole()) {
                return BROKEN;
            }
            int code = request.code();
            if (code != ACCESS && code != ACCOUNTING) {
                return OTHER;
            }
            if (code == ACCESS ? !isProved(station) : !isSealed(station)) {
                return FORGED;
            }
            if (answersAlike(station)) {
                return answer.row[0];
            }
            if (code == ACCOUNTING && !tellsSession()) {
                return MISSING;
            }
            if (code == ACCOUNTING) {
                sessions.write(station, request, time);
                beginAnswer(WRITTEN);
            } else {
                judge(station);
                appendProof(station);
            }
            finishAnswer(station);
            return answer.row[0];
        }

        private boolean isProved(int station) {
            if (!request.has(PROOF)) {
                return false;
            }
            int at = request.startOf(PROOF);
            int[] due = digests.ofProof(secrets[station], request.packet, at);
            return Bytes.standsAt(due, request.packet, at, DIGEST);
        }

        private boolean isSealed(int station) {
            int[] due = digests.ofSeal(secrets[station], request.packet);
            return Bytes.standsAt(due, request.packet, AUTHENTICATOR, DIGEST);
        }

        private boolean answersAlike(int station) {
            Kept kept = answers.find(station, request.identifier());
            if (kept == null || time - kept.givenAt > REPEAT_TICKS
                || !Bytes.standsAt(kept.asked, request.packet, AUTHENTICATOR, DIGEST)) {
                return false;
            }
            answer.becomeRow(kept.answer.row, 0, kept.answer.length);
            alike++;
            return true;
        }

        private boolean tellsSession() {
            long status = request.numberOf(STATUS);
            return request.has(NAME) && request.has(SESSION) && status >= 1 && status <= 3;
        }

        /** Begins the answer to a packet of code 1: all but its PROOF. */
        private void judge(int station) {
            int user = toldUser();
            boolean hidden = user != NONE && request.has(PASSWORD);
            boolean talks = user != NONE && !hidden && request.has(TALK);
            int kind = talks ? request.talkKind() : NONE;
            if (kind == KIND_HELLO) {
                beginAnswer(CHALLENGE);
                appendChallenge(trials.give(station, user, request.talkNumber() + 1 & 255, time));
                return;
            }
            boolean good = hidden && passwordHolds(station, user) || kind == KIND_REPLY && replyHolds(station, user);
            beginAnswer(good ? ACCEPT : REJECT);
            if (talks) {
                answer.openTalk(good ? 3 : 4, request.talkNumber(), TALK_HEAD);
            }
        }

        private int toldUser() {
            int user = request.namedUser();
            return user != NONE && isTold(user) ? user : NONE;
        }

        private boolean passwordHolds(int station, int user) {
            Packet packet = request.packet;
            int at = request.startOf(PASSWORD);
            int n = request.lengthOf(PASSWORD);
            typed.length = 0;
            for (int k = 0; k < n; k += DIGEST) {
                typed.appendMasked(packet.row, at + k, digests.ofMask(secrets[station], packet, at, k));
            }
            typed.dropZerosBehind();
            return passwords[user].isAlike(typed);
        }

        private boolean replyHolds(int station, int user) {
            if (!request.has(STATE)) {
                return false;
            }
            Trial trial = trials.take(request.numberOf(STATE), station, user);
            if (trial == null || trial.number != request.talkNumber() || time - trial.givenAt > TRIAL_TICKS) {
                return false;
            }
            if (request.lengthOf(TALK) != TALK_LONG || request.byteOf(TALK, 5) != DIGEST) {
                return false;
            }
            int[] due = digests.ofReply(trial.number, passwords[user], trial.drawn, 0);
            return Bytes.standsAt(due, request.packet, request.startOf(TALK) + 6, DIGEST);
        }

        /** The answer starts with the request's authenticator: both its digests are over that. */
        private void beginAnswer(int code) {
            answer.begin(code, request.identifier());
            System.arraycopy(request.packet.row, AUTHENTICATOR, answer.row, AUTHENTICATOR, DIGEST);
        }

        private void appendChallenge(Trial trial) {
            answer.open(STATE, STATE_BYTES);
            answer.appendNumber(trial.mark, STATE_BYTES);
            answer.openTalk(1, trial.number, TALK_LONG);
            answer.append(KIND_REPLY);
            answer.append(DIGEST);
            answer.appendRow(trial.drawn, 0, DIGEST);
        }

        private void appendProof(int station) {
            answer.open(PROOF, DIGEST);
            int at = answer.length;
            answer.appendZeros(DIGEST);
            answer.tellLength();
            answer.write(at, digests.ofProof(secrets[station], answer, at));
        }

        private void finishAnswer(int station) {
            answer.write(AUTHENTICATOR, digests.ofAnswer(secrets[station], answer));
            answers.keep(station, request, time, answer);
            anew++;
        }
    }
}
