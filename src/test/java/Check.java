/** What the tests have in common: they count what is not as it is due, and end with it. */
final class Check {
    interface Call {
        Object answer();
    }

    private static int checks = 0;
    private static int wrong = 0;

    private Check() {
    }

    static void same(String what, Object got, Object due) {
        checks++;
        if (!text(got).equals(text(due))) {
            wrong++;
            if (wrong <= 40) {
                System.out.println(what + ": answered " + cut(got, due) + ", due is "
                        + cut(due, got));
            }
        }
    }

    /** The answer, or the name of the exception behind "throws.". */
    static String outcome(Call call) {
        try {
            return text(call.answer());
        } catch (RuntimeException e) {
            return "throws." + e.getClass().getSimpleName();
        }
    }

    static void outOfBounds(String what, Festivalgrounds festival, Call call) {
        refused(what, "IndexOutOfBoundsException", festival, call);
    }

    static void illegalArgument(String what, Festivalgrounds festival, Call call) {
        refused(what, "IllegalArgumentException", festival, call);
    }

    static void illegalState(String what, Festivalgrounds festival, Call call) {
        refused(what, "IllegalStateException", festival, call);
    }

    static void noSuchElement(String what, Festivalgrounds festival, Call call) {
        refused(what, "NoSuchElementException", festival, call);
    }

    private static void refused(
            String what, String exception, Festivalgrounds festival, Call call) {
        String before = Look.at(festival);
        same(what, outcome(call), "throws." + exception);
        same(what + " changes nothing", Look.at(festival), before);
    }

    /** Of long texts what is about the first difference. */
    private static String cut(Object value, Object other) {
        String own = text(value);
        String its = text(other);
        int same = 0;
        while (same < own.length() && same < its.length()
                && own.charAt(same) == its.charAt(same)) {
            same++;
        }
        int from = Math.max(0, same - 60);
        return own.substring(from, Math.min(own.length(), from + 120));
    }

    private static String text(Object value) {
        // A number is the same, whichever of the whole types holds it.
        if (value instanceof Integer || value instanceof Long) {
            return Long.toString(((Number) value).longValue());
        }
        return String.valueOf(value);
    }

    static void end(String name) {
        System.out.println(name + ": " + checks + " checks, " + wrong + " wrong");
        if (wrong > 0 || checks == 0) {
            System.exit(1);
        }
    }
}
