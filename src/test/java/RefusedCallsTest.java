import java.util.ArrayList;
import java.util.List;

/**
 * "A method that throws an exception changes nothing. If several exceptions apply, the one that is documented
 * first is thrown." In every state below, every call with every one of the arguments below: it is refused with
 * the exception that is due, or not at all; and one that was refused has changed nothing, as an object in the
 * same state shows, to which the call was not made: both answer alike to all that can be asked then.
 */
public final class RefusedCallsTest {

    private static final int MIN = Integer.MIN_VALUE;
    private static final int MAX = Integer.MAX_VALUE;

    private static final int[] ONES = {MIN, -2, -1, 0, 1, 2, 3, 9, 10, 11, 12, 19, 20, 32, MAX};
    private static final int[] TWOS = {MIN, -2, -1, 0, 1, 2, 3, 5, 8, 9, 10, 11, 12, 19, 20, 32, MAX};
    private static final int[] THREES = {MIN, -1, 0, 1, 9, 10, MAX};

    private static final String[] WITHOUT_ARGUMENT = {"played", "appeal", "rulings"};
    private static final String[] WITH_ONE = {"play", "townOf", "strength", "force", "weather"};
    private static final String[] WITH_TWO = {"setDepot", "order", "rule", "supply", "townAfter", "reported"};
    private static final String[] WITH_THREE = {"addRoad", "addUnit"};

    /** A refused call is asked to have no effect; a refused one that is made five times has none either. */
    private static final int TIMES = 5;

    private final String what;
    private final List<Script.Call> calls;
    private final List<Script.Call> questions;
    private final List<String> due;
    private static int refusals = 0;

    private RefusedCallsTest(String what, List<Script.Call> calls) {
        this.what = what;
        this.calls = calls;
        questions = questions();
        due = Script.answers(made(), questions);
        Due.is(what + ": calls behind the 512th", calls.size() + TIMES + questions.size() > Script.MOST_CALLS ? 1 : 0, 0);
    }

    public static void main(String[] args) {
        new RefusedCallsTest("a new object", new ArrayList<>()).everyCall();
        new RefusedCallsTest("a map with room", mapWithRoom()).everyCall();
        new RefusedCallsTest("a full map", fullMap()).everyCall();
        new RefusedCallsTest("after a turn without units", List.of(Script.Call.of("play 1"))).everyCall();
        new RefusedCallsTest("in the midst", inTheMidst()).everyCall();
        new RefusedCallsTest("after 20 turns", after20Turns()).everyCall();
        Due.is("there were refusals of every kind", refusals > 3000 ? 1 : 0, 1);
        System.out.println(refusals + " refused calls");
        Due.end();
    }

    // ---- states

    private static void add(List<Script.Call> calls, String... texts) {
        for (String text : texts) {
            calls.add(Script.Call.of(text));
        }
    }

    private static List<Script.Call> mapWithRoom() {
        List<Script.Call> calls = new ArrayList<>();
        add(calls, "setDepot 0 1", "addRoad 0 1 1", "addRoad 1 2 1", "addRoad 2 3 0", "addRoad 3 8 1", "addRoad 8 9 1",
                "addUnit 0 0 9", "addUnit 0 1 4", "addUnit 1 9 9", "addUnit 1 8 1", "addUnit 0 3 2", "order 0 1", "order 1 2",
                "order 2 8");
        return calls;
    }

    private static List<Script.Call> fullMap() {
        List<Script.Call> calls = mapWithRoom();
        add(calls, "addRoad 0 4 1", "addRoad 4 5 0", "addRoad 5 6 1", "addRoad 6 7 1", "addRoad 7 9 0", "addRoad 0 9 1",
                "addRoad 1 8 0", "addRoad 2 7 1", "addRoad 3 6 1", "addRoad 4 9 1");
        add(calls, "addUnit 0 0 3", "addUnit 0 4 1", "addUnit 0 5 7", "addUnit 1 9 3", "addUnit 1 8 2",
                "addUnit 1 7 5", "addUnit 1 6 8", "order 5 2", "order 11 3", "order 10 9");
        return calls;
    }

    /** Three turns, with lost units, a ruling that stands, one that was taken back, and orders for the next turn. */
    private static List<Script.Call> inTheMidst() {
        List<Script.Call> calls = mapWithRoom();
        add(calls, "order 3 3", "play 0", "order 1 3", "order 0 2", "order 2 3", "play 0", "order 0 3", "order 2 8", "play 1",
                "rule 1 0", "rule 2 0", "appeal", "rule 0 1", "order 1 2", "order 2 9", "order 3 9");
        return calls;
    }

    private static List<Script.Call> after20Turns() {
        List<Script.Call> calls = fullMap();
        for (int turn = 0; turn < 20; turn++) {
            add(calls, "play " + turn % 3, "order " + turn % 12 + " " + turn % 10);
        }
        add(calls, "rule 19 1", "rule 3 2", "appeal", "rule 0 1", "rule 7 0", "order 0 1", "order 2 8", "order 11 -1");
        return calls;
    }

    private int count(String name) {
        int count = 0;
        for (Script.Call call : calls) {
            count += call.name().equals(name) ? 1 : 0;
        }
        return count;
    }

    private WarTable made() {
        WarTable x = new WarTable();
        for (Script.Call call : calls) {
            String answer = call.answerOf(x);
            if (answer.startsWith("!")) {
                Due.complain(what + ": " + call + " threw " + answer);
            }
        }
        return x;
    }

    // ---- what can be asked

    private List<Script.Call> questions() {
        List<Script.Call> asked = new ArrayList<>();
        add(asked, "played", "rulings", "force 0", "force 1");
        int turns = count("play");
        for (int turn = 0; turn < turns; turn++) {
            add(asked, "weather " + turn);
        }
        for (int unit = 0; unit < count("addUnit"); unit++) {
            add(asked, "townOf " + unit, "strength " + unit, "supply " + unit + " 0", "supply " + unit + " 1");
            add(asked, "reported 0 " + unit, "reported 1 " + unit);
            for (int turn = 0; turn < turns; turn += turns == 20 ? 2 : 1) {
                add(asked, "townAfter " + unit + " " + turn);
            }
        }
        if (turns == 0) {
            askForTheMap(asked);
        }
        askForWhatComes(asked, turns);
        return asked;
    }

    /** The answers tell which roads, units and depots there are. */
    private static void askForTheMap(List<Script.Call> asked) {
        for (int town = 0; town < 10; town++) {
            add(asked, "addUnit 0 " + town + " 1", "addUnit 1 " + town + " 1");
        }
        add(asked, "setDepot 0 0", "setDepot 1 9");
        for (int one = 0; one < 10; one++) {
            for (int other = one + 1; other < 10; other++) {
                add(asked, "addRoad " + one + " " + other + " 1");
            }
        }
    }

    /** The answers tell which rulings stand and which orders are given. */
    private void askForWhatComes(List<Script.Call> asked, int turns) {
        add(asked, "appeal", "force 0", "appeal", "force 1", "appeal", "force 0", "appeal");
        if (turns < 20) {
            add(asked, "play 0");
        }
        for (int unit = 0; unit < count("addUnit"); unit++) {
            add(asked, "townAfter " + unit + " " + Math.min(turns, 19), "strength " + unit, "order " + unit + " -1");
        }
        add(asked, "rule 0 0", "rule 0 2", "force 0", "force 1", "appeal", "rulings", "played");
    }

    // ---- every call

    private void everyCall() {
        for (String name : WITHOUT_ARGUMENT) {
            call(new Script.Call(name, 0, 0, 0));
        }
        for (int one : ONES) {
            for (String name : WITH_ONE) {
                call(new Script.Call(name, one, 0, 0));
            }
            for (int two : TWOS) {
                for (String name : WITH_TWO) {
                    call(new Script.Call(name, one, two, 0));
                }
                for (int three : THREES) {
                    for (String name : WITH_THREE) {
                        call(new Script.Call(name, one, two, three));
                    }
                }
            }
        }
    }

    private void call(Script.Call call) {
        WarTable x = made();
        String refusal = refusal(call.name(), call.one(), call.two(), call.three());
        String answer = call.answerOf(x);
        if (refusal.isEmpty()) {
            Due.is(what + ": " + call + " is refused (" + answer + ")", answer.startsWith("!") ? 1 : 0, 0);
            return;
        }
        refusals++;
        Due.is(what + ": " + call, answer, refusal);
        for (int time = 1; time < TIMES; time++) {
            Due.is(what + ": " + call + " once more", call.answerOf(x), refusal);
        }
        List<String> answers = Script.answers(x, questions);
        for (int i = 0; i < answers.size(); i++) {
            if (!answers.get(i).equals(due.get(i))) {
                Due.complain(what + ": " + call + " was refused, but " + questions.get(i) + " answered " + answers.get(i)
                        + " then, due is " + due.get(i));
                return;
            }
        }
    }

    /** The exception that is due, those documented first asked for first, or nothing. */
    private String refusal(String name, int one, int two, int three) {
        int turns = count("play");
        int units = count("addUnit");
        switch (name) {
            case "addRoad":
                return first(isNo(one, 10) || isNo(two, 10) || one == two, Script.ARGUMENT,
                        turns > 0 || isJoined(one, two) || count("addRoad") == 15, Script.STATE);
            case "setDepot":
                return first(isNo(one, 2) || isNo(two, 10), Script.ARGUMENT, turns > 0, Script.STATE);
            case "addUnit":
                return first(isNo(one, 2) || isNo(two, 10) || three == 0 || isNo(three, 10), Script.ARGUMENT,
                        turns > 0 || isHeld(1 - one, two) || units == 12, Script.STATE);
            case "order":
                return first(isNo(one, units), Script.INDEX, two != -1 && isNo(two, 10), Script.ARGUMENT);
            case "play":
                return first(isNo(one, 3), Script.ARGUMENT, turns == 20, Script.STATE);
            case "rule":
                return first(isNo(one, turns), Script.INDEX, isNo(two, 3), Script.ARGUMENT);
            case "appeal":
                return first(count("rule") == count("appeal"), Script.STATE, false, "");
            case "supply":
                return first(isNo(one, units), Script.INDEX, isNo(two, 3), Script.ARGUMENT);
            case "townAfter":
                return first(isNo(one, units) || isNo(two, turns), Script.INDEX, false, "");
            case "reported":
                return first(isNo(one, 2), Script.ARGUMENT, isNo(two, units) || sideOf(two) == one, Script.INDEX);
            case "townOf":
            case "strength":
                return first(isNo(one, units), Script.INDEX, false, "");
            case "force":
                return first(isNo(one, 2), Script.ARGUMENT, false, "");
            case "weather":
                return first(isNo(one, turns), Script.INDEX, false, "");
            default:
                return "";
        }
    }

    private static String first(boolean isFirst, String first, boolean isSecond, String second) {
        return isFirst ? first : isSecond ? second : "";
    }

    private static boolean isNo(int number, int bound) {
        return number < 0 || number >= bound;
    }

    private boolean isJoined(int one, int other) {
        for (Script.Call call : calls) {
            if (call.name().equals("addRoad")
                    && (call.one() == one && call.two() == other || call.one() == other && call.two() == one)) {
                return true;
            }
        }
        return false;
    }

    private boolean isHeld(int side, int town) {
        for (Script.Call call : calls) {
            if (call.name().equals("addUnit") && call.one() == side && call.two() == town) {
                return true;
            }
        }
        return false;
    }

    private int sideOf(int unit) {
        int number = 0;
        for (Script.Call call : calls) {
            if (call.name().equals("addUnit") && number++ == unit) {
                return call.one();
            }
        }
        return -1;
    }
}
