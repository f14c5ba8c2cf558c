import java.util.Arrays;

/** Counts and prints answers that are not as due. */
final class Check {
    static final int ILLEGAL_ARGUMENT = 1;
    static final int ILLEGAL_STATE = 2;

    private int looked;
    private int wrong;

    interface Call {
        void run();
    }

    void due(String what, long got, long due) {
        looked++;
        if (got != due) {
            wrong++;
            System.out.println(what + ": answered " + got + ", due is " + due);
        }
    }

    void due(String what, byte[] got, byte[] due) {
        looked++;
        if (!Arrays.equals(got, due)) {
            wrong++;
            System.out.println(what + ": answered " + Arrays.toString(got) + ", due is " + Arrays.toString(due));
        }
    }

    /** The call throws what is due, and leaves the object as it was. */
    void refuses(String what, DoorServer door, int due, Call call) {
        byte[] before = all(door);
        int thrown = 0;
        try {
            call.run();
        } catch (IllegalArgumentException e) {
            thrown = ILLEGAL_ARGUMENT;
        } catch (IllegalStateException e) {
            thrown = ILLEGAL_STATE;
        }
        due(what + " throws (1 IllegalArgumentException, 2 IllegalStateException)", thrown, due);
        due(what + " changes nothing", all(door), before);
    }

    void illegal(String what, DoorServer door, Call call) {
        refuses(what, door, ILLEGAL_ARGUMENT, call);
    }

    static byte[] draft(DoorServer door) {
        byte[] bytes = new byte[door.count(5)];
        for (int i = 0; i < bytes.length; i++) {
            bytes[i] = (byte) door.spoil(i, 0);
        }
        return bytes;
    }

    static byte[] answer(DoorServer door) {
        byte[] bytes = new byte[door.size()];
        for (int i = 0; i < bytes.length; i++) {
            bytes[i] = (byte) door.byteAt(i);
        }
        return bytes;
    }

    private static byte[] all(DoorServer door) {
        byte[] counts = new byte[6];
        for (int what = 0; what < 6; what++) {
            counts[what] = (byte) door.count(what);
        }
        return Model.join(draft(door), answer(door), counts);
    }

    void end() {
        System.out.println(wrong == 0 ? looked + " answers are as due" : wrong + " of " + looked + " answers are not as due");
        if (wrong != 0) {
            System.exit(1);
        }
    }
}
