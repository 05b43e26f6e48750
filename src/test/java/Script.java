import java.util.ArrayList;
import java.util.List;

/**
 * Calls told as texts, such as "addRoad 0 1 1" (1 for true), so that a test can be a run of rows. A row
 * "order 0 10 = !Argument" tells the answer that is due, too; a row without one only must not throw.
 */
final class Script {

    /** An object is used for at most 512 calls; what later ones answer is free. */
    static final int MOST_CALLS = 512;

    static final String ARGUMENT = "!Argument";
    static final String STATE = "!State";
    static final String INDEX = "!Index";

    /** A call by the name of its method and its arguments; those that the method does not have are 0. */
    record Call(String name, int one, int two, int three) {

        static Call of(String text) {
            String[] words = text.trim().split(" +");
            int[] numbers = new int[3];
            for (int i = 1; i < words.length; i++) {
                numbers[i - 1] = Integer.parseInt(words[i]);
            }
            return new Call(words[0], numbers[0], numbers[1], numbers[2]);
        }

        /** The number that is answered, or a short word for the exception that is thrown. */
        String answerOf(WarTable x) {
            try {
                return String.valueOf(made(x));
            } catch (RuntimeException thrown) {
                return shortWord(thrown.getClass());
            }
        }

        private int made(WarTable x) {
            switch (name) {
                case "addRoad": return x.addRoad(one, two, three != 0);
                case "setDepot": return x.setDepot(one, two);
                case "addUnit": return x.addUnit(one, two, three);
                case "order": return x.order(one, two);
                case "play": return x.play(one);
                case "played": return x.played();
                case "rule": return x.rule(one, two);
                case "appeal": return x.appeal();
                case "townOf": return x.townOf(one);
                case "strength": return x.strength(one);
                case "supply": return x.supply(one, two);
                case "townAfter": return x.townAfter(one, two);
                case "reported": return x.reported(one, two);
                case "force": return x.force(one);
                case "weather": return x.weather(one);
                case "rulings": return x.rulings();
                default: throw new Error("there is no method " + name);
            }
        }
    }

    private Script() {
    }

    /** The very class counts: the machine's own exceptions are subclasses of some of these. */
    private static String shortWord(Class<?> thrown) {
        if (thrown == IllegalArgumentException.class) {
            return ARGUMENT;
        }
        if (thrown == IllegalStateException.class) {
            return STATE;
        }
        return thrown == IndexOutOfBoundsException.class ? INDEX : "!" + thrown.getName();
    }

    static List<String> answers(WarTable x, List<Call> calls) {
        List<String> answers = new ArrayList<>();
        for (Call call : calls) {
            answers.add(call.answerOf(x));
        }
        return answers;
    }

    /** Makes the calls of a run on a new object, which it gives back for more. */
    static WarTable run(String what, String... rows) {
        WarTable x = new WarTable();
        go(what, x, rows);
        return x;
    }

    static void go(String what, WarTable x, String... rows) {
        for (int row = 0; row < rows.length; row++) {
            String[] parts = rows[row].split(" = ");
            String got = Call.of(parts[0]).answerOf(x);
            String where = what + ", row " + row + ": " + parts[0];
            if (parts.length > 1) {
                Due.is(where, got, parts[1]);
            } else if (got.startsWith("!")) {
                Due.complain(where + " threw " + got);
            }
        }
    }
}
