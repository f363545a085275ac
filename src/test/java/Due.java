/** What a test asks and what is due; the tests of the project share it. */
final class Due {
    /** A call whose exception is looked at. */
    interface Call {
        Object run();
    }

    private static int asked = 0;
    private static int wrong = 0;

    private Due() {
    }

    /** Asks that the answer of a call is the one that is due. */
    static void is(String call, Object want, Call made) {
        Object got = answer(made);
        asked++;
        if (!want.equals(got)) {
            wrong++;
            System.out.println(call + " answered " + got + ", due is " + want);
        }
    }

    /** Asks that a call throws just this exception. */
    static void fails(String call, Class<?> want, Call made) {
        is(call, "throws." + want.getSimpleName(), made);
    }

    /** The answer of a call, or the name of what it throws. */
    static Object answer(Call made) {
        try {
            return made.run();
        } catch (RuntimeException e) {
            return "throws." + e.getClass().getSimpleName();
        }
    }

    /** Tells how much was asked, and ends the run with 1 if an answer was wrong. */
    static void end(String test) {
        System.out.println(test + ": " + asked + " answers asked, " + wrong + " wrong");
        if (wrong > 0 || asked == 0) {
            System.exit(1);
        }
    }
}
