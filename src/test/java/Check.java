import java.util.Arrays;

/** Counts what is not as it is due, and ends a test with the right exit code. */
final class Check {
    private final String name;
    private int done;
    private int wrong;

    Check(String name) {
        this.name = name;
    }

    void same(String what, long want, long got) {
        done++;
        if (want != got) {
            report(what, String.valueOf(want), String.valueOf(got));
        }
    }

    void same(String what, boolean want, boolean got) {
        same(what, want ? 1 : 0, got ? 1 : 0);
    }

    void same(String what, int[] want, int[] got) {
        done++;
        if (!Arrays.equals(want, got)) {
            report(what, Arrays.toString(want), Arrays.toString(got));
        }
    }

    void same(String what, String want, String got) {
        done++;
        if (!want.equals(got)) {
            report(what, want, got);
        }
    }

    void fails(String what, Class<? extends RuntimeException> want, Runnable call) {
        same(what, want.getSimpleName(), thrownBy(call));
    }

    /** The call fails with this exception and leaves all that can be seen of the talk as it was. */
    void failsIdly(String what, Class<? extends RuntimeException> want, Talk talk, Runnable call) {
        String before = Seen.allAndDraft(talk);
        fails(what, want, call);
        same(what + " changes nothing", before, Seen.allAndDraft(talk));
    }

    static String thrownBy(Runnable call) {
        try {
            call.run();
        } catch (RuntimeException e) {
            return e.getClass().getSimpleName();
        }
        return "nothing";
    }

    void end() {
        System.out.println(name + ": " + done + " checks, " + wrong + " wrong");
        if (wrong != 0 || done == 0) {
            System.exit(1);
        }
    }

    private void report(String what, String want, String got) {
        wrong++;
        if (wrong <= 40) {
            System.out.println(name + ": " + what + ": due is " + want + ", got " + got);
        }
    }
}
