import java.util.Arrays;
import java.util.function.Consumer;

/** Counts and prints answers that are not as due. */
final class Check {
    static final int ILLEGAL_ARGUMENT = 1;
    static final int ILLEGAL_STATE = 2;

    private int looked;
    private int wrong;

    interface Call {
        void run();
    }

    void due(String what, long got, long due) {
        looked++;
        if (got != due) {
            wrong++;
            System.out.println(what + ": answered " + got + ", due is " + due);
        }
    }

    void due(String what, byte[] got, byte[] due) {
        looked++;
        if (!Arrays.equals(got, due)) {
            wrong++;
            System.out.println(what + ": answered " + Arrays.toString(got) + ", due is " + Arrays.toString(due));
        }
    }

    /** The call is refused on an object with a past, which then answers all that is asked as one that never got it. */
    void refuses(String what, int due, Consumer<DoorServer> before, Consumer<DoorServer> call) {
        DoorServer door = Bench.lived();
        before.accept(door);
        due(what + " throws (1 IllegalArgumentException, 2 IllegalStateException)", thrownBy(() -> call.accept(door)), due);
        DoorServer other = Bench.lived();
        before.accept(other);
        due(what + " changes nothing", Bench.allOf(door).equals(Bench.allOf(other)) ? 1 : 0, 1);
    }

    void illegal(String what, Consumer<DoorServer> call) {
        refuses(what, ILLEGAL_ARGUMENT, door -> { }, call);
    }

    /** What a call throws, 0 for nothing. */
    static int thrownBy(Call call) {
        try {
            call.run();
            return 0;
        } catch (IllegalArgumentException e) {
            return ILLEGAL_ARGUMENT;
        } catch (IllegalStateException e) {
            return ILLEGAL_STATE;
        }
    }

    static byte[] draft(DoorServer door) {
        return draft(door, 0, door.count(5));
    }

    static byte[] draft(DoorServer door, int from, int to) {
        byte[] bytes = new byte[to - from];
        for (int i = from; i < to; i++) {
            bytes[i - from] = (byte) door.spoil(i, 0);
        }
        return bytes;
    }

    static byte[] answer(DoorServer door) {
        return answer(door, 0, door.size());
    }

    static byte[] answer(DoorServer door, int from, int to) {
        byte[] bytes = new byte[to - from];
        for (int i = from; i < to; i++) {
            bytes[i - from] = (byte) door.byteAt(i);
        }
        return bytes;
    }

    void end() {
        System.out.println(wrong == 0 ? looked + " answers are as due" : wrong + " of " + looked + " answers are not as due");
        if (wrong != 0) {
            System.exit(1);
        }
    }
}
