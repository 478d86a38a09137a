import java.util.concurrent.Callable;

/** Compares answers with what is due, and counts those that differ. */
final class Checks {
    private static int wrong = 0;

    private Checks() {
    }

    static void due(String call, Object want, Callable<?> answer) {
        String got = answerOf(answer);
        if (!got.equals(String.valueOf(want))) {
            wrong++;
            System.out.println(call + " answered " + got + ", due is " + want);
        }
    }

    static void dueThrow(String call, Class<? extends RuntimeException> want, Runnable run) {
        due(call, "throws." + want.getSimpleName(), () -> {
            run.run();
            return "nothing";
        });
    }

    static void dueQuiet(String call, Runnable run) {
        due(call, "nothing", () -> {
            run.run();
            return "nothing";
        });
    }

    /** What a call answers, as a text; throws.Name if it throws. */
    static String answerOf(Callable<?> call) {
        try {
            return String.valueOf(call.call());
        } catch (Exception e) {
            return "throws." + e.getClass().getSimpleName();
        }
    }

    /** The givers of members 0 .. count - 1 by the plan, as a text. */
    static String givers(ChainExchange x, int count) {
        StringBuilder text = new StringBuilder();
        for (int member = 0; member < count; member++) {
            text.append(member == 0 ? "" : " ").append(x.giver(member));
        }
        return text.toString();
    }

    static void finish() {
        if (wrong != 0) {
            System.out.println(wrong + " answers are not as due");
            System.exit(1);
        }
    }
}
