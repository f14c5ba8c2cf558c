import java.util.List;
import java.util.Random;

/** Runs of calls drawn from fixed seeds: the class and the model must answer alike, call by call. */
public final class ModelTest {
    private static final int RUNS = 600;
    private static final int CALLS = 512;
    private static final long[] PATTERNS = {5L, 0x1122334455667788L, -1L, 123456789L};
    private static final int[] LENGTHS = {1, 15, 16, 17, 32, 33, 48, 49, 60};

    private final Random random;
    private final DoorServer door = new DoorServer();
    private final Model model = new Model();
    private final int run;
    private final boolean accounting;
    private int calls;
    private int wrong;
    private int identifier;

    private ModelTest(int run) {
        this.run = run;
        random = new Random(run);
        accounting = run % 4 == 3;
    }

    /** One call on both sides; a call without an answer gives 0. */
    private interface Call {
        long on(DoorServer door, Model model);
    }

    private long call(String text, Call call) {
        calls++;
        long got = outcome(call, door, null);
        long due = outcome(call, null, model);
        if (got != due) {
            wrong++;
            System.out.println("run " + run + ", call " + calls + ": " + text + " answered " + got + ", due is " + due);
        }
        return due;
    }

    private static long outcome(Call call, DoorServer door, Model model) {
        try {
            return call.on(door, model);
        } catch (IllegalArgumentException e) {
            return Long.MIN_VALUE;
        } catch (IllegalStateException e) {
            return Long.MIN_VALUE + 1;
        }
    }

    private int any(int n) {
        return random.nextInt(n);
    }

    private boolean rarely() {
        return any(12) == 0;
    }

    private long pattern() {
        return PATTERNS[any(PATTERNS.length)];
    }

    private int length() {
        return LENGTHS[any(LENGTHS.length)];
    }

    /** A number near the bounds of 0 .. most, mostly within. */
    private int around(int most) {
        return rarely() ? (any(2) == 0 ? -1 : most + 1) : any(most + 1);
    }

    private void secret(int station, long p, int n) {
        call("secret(" + station + ", " + p + ", " + n + ")", (d, m) -> {
            if (d != null) d.secret(station, p, n); else m.secret(station, p, n);
            return 0;
        });
    }

    private void user(int user, long p, int n) {
        call("user(" + user + ", " + p + ", " + n + ")", (d, m) -> (d != null ? d.user(user, p, n) : m.user(user, p, n)) ? 1 : 0);
    }

    private void draft(int code, int id, long seed) {
        call("draft(" + code + ", " + id + ", " + seed + ")", (d, m) -> {
            if (d != null) d.draft(code, id, seed); else m.draft(code, id, seed);
            return 0;
        });
    }

    private void put(int type, int n, int b) {
        call("put(" + type + ", " + n + ", " + b + ")", (d, m) -> d != null ? d.put(type, n, b) : m.put(type, n, b));
    }

    private void number(int type, int v) {
        call("number(" + type + ", " + v + ")", (d, m) -> d != null ? d.number(type, v) : m.number(type, v));
    }

    private void name(int user) {
        call("name(" + user + ")", (d, m) -> d != null ? d.name(user) : m.name(user));
    }

    private void password(int station, long p, int n) {
        call("password(" + station + ", " + p + ", " + n + ")", (d, m) -> d != null ? d.password(station, p, n) : m.password(station, p, n));
    }

    private void hello(int number) {
        call("hello(" + number + ")", (d, m) -> d != null ? d.hello(number) : m.hello(number));
    }

    private void reply(long p, int n) {
        call("reply(" + p + ", " + n + ")", (d, m) -> d != null ? d.reply(p, n) : m.reply(p, n));
    }

    private void prove(int station) {
        call("prove(" + station + ")", (d, m) -> d != null ? d.prove(station) : m.prove(station));
    }

    private void seal(int station) {
        call("seal(" + station + ")", (d, m) -> {
            if (d != null) d.seal(station); else m.seal(station);
            return 0;
        });
    }

    private void spoil(int i, int x) {
        call("spoil(" + i + ", " + x + ")", (d, m) -> d != null ? d.spoil(i, x) : m.spoil(i, x));
    }

    private void send(int station) {
        call("send(" + station + ")", (d, m) -> d != null ? d.send(station) : m.send(station));
        lookAtAnswer();
    }

    private void ticks(int n) {
        call("ticks(" + n + ")", (d, m) -> d != null ? d.ticks(n) : m.ticks(n));
    }

    /** These looks do not count as calls of the run: they change nothing. */
    private void lookAtAnswer() {
        int before = calls;
        call("size()", (d, m) -> d != null ? d.size() : m.size());
        for (int k = -1; k <= model.size(); k++) {
            int i = k;
            call("byteAt(" + i + ")", (d, m) -> d != null ? d.byteAt(i) : m.byteAt(i));
        }
        for (int k = -1; k <= 6; k++) {
            int what = k;
            call("count(" + what + ")", (d, m) -> d != null ? d.count(what) : m.count(what));
        }
        calls = before;
    }

    private void lookAtAll() {
        int before = calls;
        lookAtAnswer();
        for (int k = -1; k <= model.count(2); k++) {
            for (int w = -1; w <= 9; w++) {
                int index = k;
                int what = w;
                call("record(" + index + ", " + what + ")", (d, m) -> d != null ? d.record(index, what) : m.record(index, what));
            }
        }
        List<Integer> bytes = model.draftBytes();
        for (int i = 0; i < bytes.size(); i++) {
            spoil(i, 0);
        }
        calls = before;
    }

    private void wildCall() {
        switch (any(17)) {
            case 0: secret(around(3), random.nextLong(), around(41)); break;
            case 1: user(around(31), pattern(), around(61)); break;
            case 2: draft(around(255), around(255), random.nextLong()); break;
            case 3: put(around(255), around(100), around(255)); break;
            case 4: number(around(255), random.nextInt()); break;
            case 5: name(around(31)); break;
            case 6: password(around(3), pattern(), around(61)); break;
            case 7: hello(around(255)); break;
            case 8: reply(pattern(), around(61)); break;
            case 9: prove(around(3)); break;
            case 10: seal(around(3)); break;
            case 11: spoil(around(Math.max(0, model.count(5) - 1)), around(255)); break;
            case 12: send(around(3)); break;
            case 13: ticks(around(40)); break;
            case 14: ticks(around(1000)); break;
            case 15: crookedProof(); break;
            default: put(new int[] {1, 2, 24, 40, 42, 43, 44, 79, 80}[any(9)], any(25), any(256)); break;
        }
    }

    /** An attribute whose length says another one, mostly that of a PROOF: what prove() does hangs on where it ends. */
    private void crookedProof() {
        int n = any(25);
        int before = model.count(5);
        if (before + n + 2 > 1000) {
            return;
        }
        put(any(4) == 0 ? 26 : 80, n, any(256));
        spoil(before + 1, (n + 2) ^ (any(3) == 0 ? any(60) : 18));
        if (any(3) == 0) put(26, any(20), any(256));
        prove(any(4));
        lookAtAll();
    }

    private void spoilSomewhere() {
        spoil(any(model.count(5)), 1 << any(8));
    }

    private int nextIdentifier() {
        identifier = (identifier + (any(3) == 0 ? 0 : 1)) % 47;
        return identifier;
    }

    private void logIn() {
        int station = any(2);
        int user = any(3);
        draft(1, nextIdentifier(), any(3));
        if (!rarely()) name(user);
        if (rarely()) put(26, any(20), any(256));
        int way = any(10);
        if (way < 4) password(station, PATTERNS[user], LENGTHS[user + any(2)]);
        if (way >= 3 && way < 8) hello(any(256));
        if (way >= 7) put(79, 4 + any(20), 2);
        finish(station);
    }

    private void answerChallenge() {
        int station = any(2);
        int user = any(3);
        draft(1, nextIdentifier(), any(3));
        name(user);
        hello(any(256));
        prove(station);
        send(station);
        if (any(4) == 0) ticks(1 + any(70));
        if (any(6) == 0) logIn();
        draft(1, nextIdentifier(), any(3));
        name(rarely() ? any(3) : user);
        reply(PATTERNS[user], LENGTHS[user]);
        if (rarely() && model.count(5) > 60) spoil(25 + any(30), 1 << any(8));
        finish(rarely() ? any(4) : station);
    }

    private void tellUse() {
        int station = any(4);
        draft(4, nextIdentifier(), any(3));
        if (!rarely()) name(any(32));
        if (!rarely()) put(44, 1 + any(3), any(9) * 31);
        if (!rarely()) number(40, rarely() ? any(6) - 1 : 1 + any(3));
        if (any(2) == 0) number(42, rarely() ? random.nextInt() : any(50));
        if (any(2) == 0) number(43, rarely() ? random.nextInt() : any(50));
        if (rarely()) prove(station);
        finish(station);
    }

    private void finish(int station) {
        if (any(30) == 0) wildCall();
        if (rarely()) spoilSomewhere();
        boolean sealing = model.draftBytes().get(0) == 4;
        if (sealing) seal(station); else prove(station);
        if (any(20) == 0) spoilSomewhere();
        send(any(20) == 0 ? any(4) : station);
        while (any(3) == 0) {
            if (any(2) == 0) ticks(any(2) == 0 ? 30 : 1 + any(31));
            send(station);
        }
    }

    private int go() {
        for (int u = 0; u < 3; u++) {
            if (any(8) > 0) user(u, PATTERNS[u], LENGTHS[u]);
        }
        while (calls < CALLS) {
            int way = any(20);
            if (accounting ? way < 16 : way < 3) {
                tellUse();
            } else if (way < 9) {
                logIn();
            } else if (way < 16) {
                answerChallenge();
            } else if (run % 2 == 0) {
                wildCall();
            } else {
                ticks(1 + any(40));
            }
            if (any(40) == 0) lookAtAll();
        }
        lookAtAll();
        return wrong;
    }

    public static void main(String[] args) {
        int wrong = 0;
        for (int run = 0; run < RUNS && wrong < 20; run++) {
            wrong += new ModelTest(run).go();
        }
        System.out.println(wrong == 0 ? RUNS + " runs are as the model has them" : wrong + " answers are not as due");
        if (wrong != 0) {
            System.exit(1);
        }
    }
}
