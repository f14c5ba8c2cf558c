import java.io.ByteArrayOutputStream;
import java.security.GeneralSecurityException;
import java.security.MessageDigest;
import java.util.ArrayList;
import java.util.Arrays;
import java.util.Comparator;
import java.util.HashMap;
import java.util.LinkedHashMap;
import java.util.List;
import java.util.Map;
import java.util.TreeMap;
import javax.crypto.Mac;
import javax.crypto.spec.SecretKeySpec;

/** The document said a second time, with the Java library and without a thought for room or speed. */
final class Model {
    private static final int[] LEAST = new int[256];
    private static final int[] MOST = new int[256];

    static {
        bound(1, 1, 20);
        bound(2, 16, 64);
        bound(24, 8, 8);
        bound(40, 4, 4);
        bound(42, 4, 4);
        bound(43, 4, 4);
        bound(44, 1, 16);
        bound(79, 4, 100);
        bound(80, 16, 16);
    }

    private static void bound(int type, int least, int most) {
        LEAST[type] = least;
        MOST[type] = most;
    }

    private record Trial(long mark, int station, int user, int number, byte[] drawn, int time) { }

    private record Kept(byte[] asked, byte[] answer, int time) { }

    private static final class Entry {
        int station;
        byte[] session;
        byte[] name;
        int state;
        int came;
        int changed;
        long in;
        long out;
    }

    private final byte[][] secrets = new byte[4][];
    private final Map<Integer, byte[]> passwords = new HashMap<>();
    private final LinkedHashMap<Integer, Kept> kept = new LinkedHashMap<>();
    private final LinkedHashMap<Long, Trial> trials = new LinkedHashMap<>();
    private final TreeMap<byte[], Entry> entries = new TreeMap<>(Comparator.comparing((byte[] b) -> b, Arrays::compareUnsigned));
    private byte[] draft;
    private byte[] last = new byte[0];
    private int time;
    private int anew;
    private int alike;
    private long marks;
    private long h = 1;

    Model() {
        for (int i = 0; i < 4; i++) {
            secrets[i] = new byte[] {(byte) (49 + i)};
        }
        draft(1, 0, 0);
    }

    static byte[] join(Object... parts) {
        ByteArrayOutputStream all = new ByteArrayOutputStream();
        for (Object part : parts) {
            if (part instanceof byte[] bytes) {
                all.writeBytes(bytes);
            } else {
                all.write((Integer) part);
            }
        }
        return all.toByteArray();
    }

    static byte[] md5(Object... parts) {
        try {
            return MessageDigest.getInstance("MD5").digest(join(parts));
        } catch (GeneralSecurityException e) {
            throw new AssertionError(e);
        }
    }

    static byte[] hmac(byte[] secret, byte[] text) {
        try {
            Mac mac = Mac.getInstance("HmacMD5");
            mac.init(new SecretKeySpec(secret, "HmacMD5"));
            return mac.doFinal(text);
        } catch (GeneralSecurityException e) {
            throw new AssertionError(e);
        }
    }

    static byte[] pattern(long p, int n) {
        byte[] bytes = new byte[n];
        for (int k = 0; k < n; k++) {
            bytes[k] = (byte) (33 + ((p >> (8 * (k % 8))) & 63));
        }
        return bytes;
    }

    static byte[] with(byte[] text, int at, byte[] value) {
        byte[] copy = text.clone();
        System.arraycopy(value, 0, copy, at, value.length);
        return copy;
    }

    static byte[] covered(byte[] secret, byte[] authenticator, byte[] plain) {
        byte[] row = Arrays.copyOf(plain, (plain.length + 15) / 16 * 16);
        byte[] before = authenticator;
        for (int k = 0; k < row.length; k += 16) {
            byte[] mask = md5(secret, before);
            for (int i = 0; i < 16; i++) {
                row[k + i] ^= mask[i];
            }
            before = Arrays.copyOfRange(row, k, k + 16);
        }
        return row;
    }

    private static byte[] uncovered(byte[] secret, byte[] authenticator, byte[] row) {
        byte[] plain = row.clone();
        byte[] before = authenticator;
        int end = 0;
        for (int k = 0; k < row.length; k += 16) {
            byte[] mask = md5(secret, before);
            for (int i = k; i < k + 16; i++) {
                plain[i] = (byte) (row[i] ^ mask[i - k]);
                end = plain[i] == 0 ? end : i + 1;
            }
            before = Arrays.copyOfRange(row, k, k + 16);
        }
        return Arrays.copyOf(plain, end);
    }

    private static byte[] big(long v, int n) {
        byte[] bytes = new byte[n];
        for (int i = 0; i < n; i++) {
            bytes[n - 1 - i] = (byte) (v >> (8 * i));
        }
        return bytes;
    }

    private static long unsigned(byte[] value) {
        long v = 0;
        for (byte b : value) {
            v = v * 256 + (b & 255);
        }
        return v;
    }

    private static void legal(boolean fine) {
        if (!fine) {
            throw new IllegalArgumentException();
        }
    }

    private static boolean isByte(int v) {
        return v >= 0 && v <= 255;
    }

    private static boolean isStation(int v) {
        return v >= 0 && v <= 3;
    }

    private static boolean isUser(int v) {
        return v >= 0 && v <= 31;
    }

    private int attach(Object... attributes) {
        byte[] longer = join(draft, join(attributes));
        if (longer.length > 1000) {
            throw new IllegalStateException();
        }
        draft = with(longer, 2, big(longer.length, 2));
        return draft.length;
    }

    private static byte[] attribute(int type, Object... value) {
        byte[] bytes = join(value);
        return join(type, bytes.length + 2, bytes);
    }

    void secret(int station, long p, int n) {
        legal(isStation(station) && n >= 1 && n <= 40);
        secrets[station] = pattern(p, n);
    }

    boolean user(int user, long p, int n) {
        legal(isUser(user) && n >= 1 && n <= 60);
        return passwords.put(user, pattern(p, n)) == null;
    }

    void draft(int code, int identifier, long seed) {
        legal(isByte(code) && isByte(identifier));
        byte[] packet = join(code, identifier, 0, 20, new byte[16]);
        for (int i = 0; i < 16; i++) {
            packet[4 + i] = (byte) ((seed >> (8 * (i % 8))) ^ (i < 8 ? 0 : 90));
        }
        draft = packet;
    }

    int put(int type, int n, int b) {
        legal(isByte(type) && isByte(b) && n >= 0 && n <= 100);
        byte[] value = new byte[n];
        for (int i = 0; i < n; i++) {
            value[i] = (byte) (b + i);
        }
        return attach(attribute(type, value));
    }

    int number(int type, int v) {
        legal(isByte(type));
        return attach(attribute(type, big(v, 4)));
    }

    int name(int user) {
        legal(isUser(user));
        return attach(attribute(1, nameOf(user)));
    }

    private static byte[] nameOf(int user) {
        return String.format("u%02d", user).getBytes(java.nio.charset.StandardCharsets.ISO_8859_1);
    }

    int password(int station, long p, int n) {
        legal(isStation(station) && n >= 1 && n <= 60);
        byte[] authenticator = Arrays.copyOfRange(draft, 4, 20);
        return attach(attribute(2, covered(secrets[station], authenticator, pattern(p, n))));
    }

    int hello(int number) {
        legal(isByte(number));
        return attach(attribute(79, 2, number, 0, 5, 1));
    }

    int reply(long p, int n) {
        legal(n >= 1 && n <= 60);
        if (last.length == 0 || last[0] != 11) {
            return -1;
        }
        Map<Integer, byte[]> told = lookThrough(last);
        byte[] talk = told.get(79);
        byte[] digest = md5(talk[1] & 255, pattern(p, n), Arrays.copyOfRange(talk, 6, 22));
        return attach(attribute(24, told.get(24)), attribute(79, 2, talk[1] & 255, 0, 22, 4, 16, digest));
    }

    /** Where the value of the draft's first PROOF with 16 bytes begins, or -1. */
    private int firstProof() {
        int i = 20;
        while (i + 1 < draft.length) {
            int taken = draft[i + 1] & 255;
            if (taken < 2 || i + taken > draft.length) {
                return -1;
            }
            if (draft[i] == 80 && taken == 18) {
                return i + 2;
            }
            i += taken;
        }
        return -1;
    }

    int prove(int station) {
        legal(isStation(station));
        if (firstProof() < 0) {
            attach(attribute(80, new byte[16]));
        }
        // Where the going-through does not come so far, the one that came is the first.
        int at = firstProof() < 0 ? draft.length - 16 : firstProof();
        draft = with(with(draft, 2, big(draft.length, 2)), at, new byte[16]);
        draft = with(draft, at, hmac(secrets[station], draft));
        return draft.length;
    }

    void seal(int station) {
        legal(isStation(station));
        draft = with(with(draft, 2, big(draft.length, 2)), 4, new byte[16]);
        draft = with(draft, 4, md5(draft, secrets[station]));
    }

    int spoil(int i, int x) {
        legal(i >= 0 && i < draft.length && isByte(x));
        draft[i] ^= (byte) x;
        return draft[i] & 255;
    }

    int size() {
        return last.length;
    }

    int byteAt(int i) {
        legal(i >= 0 && i < last.length);
        return last[i] & 255;
    }

    int ticks(int n) {
        legal(n >= 1 && n <= 1000 && time + n <= 1000000);
        time += n;
        return time;
    }

    int count(int what) {
        legal(what >= 0 && what <= 5);
        return new int[] {kept.size(), trials.size(), entries.size(), anew, alike, draft.length}[what];
    }

    long record(int k, int what) {
        legal(k >= 0 && k < entries.size() && what >= 0 && what <= 8);
        Entry entry = new ArrayList<>(entries.values()).get(k);
        return new long[] {entry.station, entry.state, entry.came, entry.changed, entry.in, entry.out,
            entry.session.length, entry.session[0] & 255, entry.name[entry.name.length - 1] & 255}[what];
    }

    /** The attributes that count, by type; null if the packet is not whole. */
    private static Map<Integer, byte[]> lookThrough(byte[] packet) {
        if (packet.length < 20 || packet.length > 1000 || unsigned(Arrays.copyOfRange(packet, 2, 4)) != packet.length) {
            return null;
        }
        Map<Integer, byte[]> told = new HashMap<>();
        int i = 20;
        while (i < packet.length) {
            int taken = i + 1 < packet.length ? packet[i + 1] & 255 : 0;
            if (taken < 3 || i + taken > packet.length) {
                return null;
            }
            int type = packet[i] & 255;
            int n = taken - 2;
            if (MOST[type] > 0) {
                boolean fits = n >= LEAST[type] && n <= MOST[type] && (type != 2 || n % 16 == 0);
                if (!fits || told.put(type, Arrays.copyOfRange(packet, i + 2, i + taken)) != null) {
                    return null;
                }
                told.put(-type, new byte[] {(byte) ((i + 2) >> 8), (byte) (i + 2)});
            }
            i += taken;
        }
        return told;
    }

    int send(int station) {
        legal(isStation(station));
        Map<Integer, byte[]> told = lookThrough(draft);
        if (told == null) {
            return -2;
        }
        if (draft[0] != 1 && draft[0] != 4) {
            return -3;
        }
        byte[] authenticator = Arrays.copyOfRange(draft, 4, 20);
        if (draft[0] == 4) {
            if (!Arrays.equals(authenticator, md5(with(draft, 4, new byte[16]), secrets[station]))) {
                return -4;
            }
        } else {
            if (!told.containsKey(80)) {
                return -4;
            }
            byte[] blank = with(draft, (int) unsigned(told.get(-80)), new byte[16]);
            if (!Arrays.equals(told.get(80), hmac(secrets[station], blank))) {
                return -4;
            }
        }
        Kept before = kept.get(station * 256 + (draft[1] & 255));
        if (before != null && time - before.time() <= 30 && Arrays.equals(before.asked(), authenticator)) {
            alike++;
            last = before.answer();
            return last[0];
        }
        return draft[0] == 4 ? account(station, told) : access(station, told);
    }

    private int account(int station, Map<Integer, byte[]> told) {
        if (!told.containsKey(1) || !told.containsKey(44) || !told.containsKey(40)) {
            return -5;
        }
        long status = unsigned(told.get(40));
        if (status < 1 || status > 3) {
            return -5;
        }
        byte[] key = join(station, told.get(44));
        Entry entry = entries.get(key);
        long in = unsigned(told.getOrDefault(42, new byte[4]));
        long out = unsigned(told.getOrDefault(43, new byte[4]));
        if (entry == null && entries.size() < 50) {
            entry = new Entry();
            entry.station = station;
            entry.session = told.get(44);
            entry.name = told.get(1);
            entry.came = time;
            entry.changed = time;
            entry.in = status == 1 ? 0 : in;
            entry.out = status == 1 ? 0 : out;
            entry.state = status == 2 ? 1 : 0;
            entries.put(key, entry);
        } else if (entry != null && entry.state == 0 && status != 1) {
            entry.changed = time;
            entry.in = in > entry.in ? in : entry.in;
            entry.out = out > entry.out ? out : entry.out;
            entry.state = status == 2 ? 1 : 0;
        }
        return answer(station, 5, new byte[0]);
    }

    private int access(int station, Map<Integer, byte[]> told) {
        int user = -1;
        for (int u : passwords.keySet()) {
            user = told.containsKey(1) && Arrays.equals(told.get(1), nameOf(u)) ? u : user;
        }
        if (user < 0) {
            return answer(station, 3, new byte[0]);
        }
        if (told.containsKey(2)) {
            byte[] plain = uncovered(secrets[station], Arrays.copyOfRange(draft, 4, 20), told.get(2));
            return answer(station, Arrays.equals(plain, passwords.get(user)) ? 2 : 3, new byte[0]);
        }
        if (!told.containsKey(79)) {
            return answer(station, 3, new byte[0]);
        }
        return talk(station, user, told);
    }

    private int talk(int station, int user, Map<Integer, byte[]> told) {
        byte[] talk = told.get(79);
        int number = talk[1] & 255;
        byte[] no = attribute(79, 4, number, 0, 4);
        if (unsigned(Arrays.copyOfRange(talk, 2, 4)) != talk.length || talk[0] != 2 || talk.length < 5) {
            return answer(station, 3, no);
        }
        if (talk[4] == 1) {
            return challenge(station, user, (number + 1) % 256);
        }
        if (talk[4] != 4 || !told.containsKey(24)) {
            return answer(station, 3, no);
        }
        Trial trial = trials.get(unsigned(told.get(24)));
        if (trial == null || trial.station() != station || trial.user() != user) {
            return answer(station, 3, no);
        }
        trials.remove(trial.mark());
        boolean good = trial.number() == number && time - trial.time() <= 60 && talk.length == 22 && talk[5] == 16
            && Arrays.equals(Arrays.copyOfRange(talk, 6, 22), md5(number, passwords.get(user), trial.drawn()));
        return good ? answer(station, 2, attribute(79, 3, number, 0, 4)) : answer(station, 3, no);
    }

    private int challenge(int station, int user, int number) {
        byte[] drawn = new byte[16];
        for (int i = 0; i < 16; i++) {
            h = h * 6364136223846793005L + 1442695040888963407L;
            drawn[i] = (byte) (h >>> 56);
        }
        marks++;
        if (trials.size() == 6) {
            trials.remove(trials.keySet().iterator().next());
        }
        trials.put(marks, new Trial(marks, station, user, number, drawn, time));
        return answer(station, 11, join(attribute(24, big(marks, 8)), attribute(79, 1, number, 0, 22, 4, 16, drawn)));
    }

    private int answer(int station, int code, byte[] attributes) {
        byte[] authenticator = Arrays.copyOfRange(draft, 4, 20);
        byte[] proof = code == 5 ? new byte[0] : attribute(80, new byte[16]);
        int n = 20 + attributes.length + proof.length;
        byte[] packet = join(code, draft[1] & 255, big(n, 2), authenticator, attributes, proof);
        if (code != 5) {
            packet = with(packet, n - 16, hmac(secrets[station], packet));
        }
        packet = with(packet, 4, md5(packet, secrets[station]));
        int key = station * 256 + (draft[1] & 255);
        kept.remove(key);
        if (kept.size() == 40) {
            kept.remove(kept.keySet().iterator().next());
        }
        kept.put(key, new Kept(authenticator, packet, time));
        anew++;
        last = packet;
        return code;
    }

    /** The draft's bytes, for tests that want to look at them all. */
    List<Integer> draftBytes() {
        List<Integer> bytes = new ArrayList<>();
        for (byte b : draft) {
            bytes.add(b & 255);
        }
        return bytes;
    }
}
