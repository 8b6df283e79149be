/** Counts the calls whose answer is not the one that is due. */
final class Due {
    /** A call whose answer is looked at. */
    interface Call {
        Object run();
    }

    private static int asked = 0;
    private static int wrong = 0;

    private Due() {
    }

    /** Returns the answer as a text, or "throws." and the very class that was thrown. */
    static String ask(Call call) {
        try {
            return String.valueOf(call.run());
        } catch (RuntimeException thrown) {
            return "throws." + thrown.getClass().getSimpleName();
        }
    }

    static void answer(String what, Object want, Call call) {
        same(what, String.valueOf(want), ask(call));
    }

    static void same(String what, String want, String got) {
        asked++;
        if (!want.equals(got)) {
            wrong++;
            if (wrong <= 30) {
                System.out.println(what + " answered " + got + ", due is " + want);
            }
        }
    }

    static int askedCount() {
        return asked;
    }

    static int wrongCount() {
        return wrong;
    }

    static void end(String test) {
        System.out.println(test + ": " + asked + " answers, " + wrong + " not as due");
        if (wrong != 0 || asked == 0) {
            System.exit(1);
        }
    }
}
