import java.util.ArrayList;
import java.util.List;
import java.util.Random;

/**
 * Long runs of calls, right and wrong ones, drawn from fixed seeds: WarTable and PlainTable have to
 * answer alike at each call. A call that throws has to change nothing, as what follows would show.
 */
public final class RandomRunsTest {

    private static final int RUNS = 1000;
    private static final int CALLS = 512;
    private static final int STRAY = Integer.MIN_VALUE;

    private static final int LOST = STRAY + 1;

    private final Random random;
    private final WarTable table = new WarTable();
    private final PlainTable plain = new PlainTable();
    private final List<int[]> roads = new ArrayList<>();
    private final int mostTowns;
    private int units = 0;

    /** How often a thing has happened, over all runs: a run that shows nothing proves nothing. */
    private static long lostUnits = 0;
    private static long rulingsThatMattered = 0;
    private static long reports = 0;
    private static long refused = 0;

    private RandomRunsTest(int seed) {
        random = new Random(seed);
        // Few towns make for many fights.
        mostTowns = 3 + random.nextInt(8);
    }

    public static void main(String[] args) {
        for (int seed = 0; seed < RUNS; seed++) {
            new RandomRunsTest(seed).run(seed);
        }
        Due.is("units were lost", lostUnits > 1000 ? 1 : 0, 1);
        Due.is("rulings mattered", rulingsThatMattered > 1000 ? 1 : 0, 1);
        Due.is("reports came", reports > 1000 ? 1 : 0, 1);
        Due.is("calls were refused", refused > 1000 ? 1 : 0, 1);
        System.out.println(lostUnits + " units lost, " + rulingsThatMattered + " rulings that mattered, "
                + reports + " reports, " + refused + " calls refused");
        Due.end();
    }

    private void run(int seed) {
        for (int call = 0; call < CALLS; call++) {
            boolean isSetUp = call < 45;
            int kind = isSetUp && random.nextInt(20) > 0 ? random.nextInt(7) : 7 + random.nextInt(40);
            if (!alike("run " + seed + ", call " + call, kind)) {
                return;
            }
        }
    }

    private boolean alike(String where, int kind) {
        if (kind < 4) {
            return addRoad(where);
        }
        if (kind == 4) {
            int side = side();
            int town = town();
            return same(where + " setDepot(" + side + ", " + town + ")",
                    () -> table.setDepot(side, town), () -> plain.setDepot(side, town)) != STRAY;
        }
        if (kind < 7) {
            return addUnit(where);
        }
        if (kind < 20) {
            return order(where);
        }
        if (kind < 24) {
            return turn(where, kind);
        }
        return question(where, kind);
    }

    private boolean addRoad(String where) {
        int one = town();
        int other = town();
        boolean paved = random.nextInt(3) > 0;
        int answer = same(where + " addRoad(" + one + ", " + other + ", " + paved + ")",
                () -> table.addRoad(one, other, paved), () -> plain.addRoad(one, other, paved));
        if (answer > 0) {
            roads.add(new int[] {one, other});
        }
        return answer != STRAY;
    }

    private boolean addUnit(String where) {
        int side = side();
        int town = town();
        int strength = random.nextInt(25) == 0 ? stray(10) : 1 + random.nextInt(9);
        int answer = same(where + " addUnit(" + side + ", " + town + ", " + strength + ")",
                () -> table.addUnit(side, town, strength), () -> plain.addUnit(side, town, strength));
        if (answer >= 0) {
            units++;
        }
        return answer != STRAY;
    }

    private boolean order(String where) {
        int unit = unit();
        int town = orderedTown(unit);
        return same(where + " order(" + unit + ", " + town + ")",
                () -> table.order(unit, town), () -> plain.order(unit, town)) != STRAY;
    }

    /** Mostly a town next to the unit's by a road, for others are of little use. */
    private int orderedTown(int unit) {
        if (unit < 0 || unit >= units || roads.isEmpty() || random.nextInt(8) == 0) {
            return random.nextInt(4) == 0 ? -1 : town();
        }
        int at = plain.townOf(unit);
        for (int tries = 0; tries < 40; tries++) {
            int[] road = roads.get(random.nextInt(roads.size()));
            if (road[0] == at || road[1] == at) {
                return road[0] + road[1] - at;
            }
        }
        return town();
    }

    private boolean turn(String where, int kind) {
        int weather = weather();
        int turn = turn();
        if (kind == 20 || kind == 21 && plain.played() < 12) {
            int answer = same(where + " play(" + weather + ")", () -> table.play(weather), () -> plain.play(weather));
            lostUnits += Math.max(answer, 0);
            return answer != STRAY;
        }
        if (kind < 23) {
            int answer = same(where + " rule(" + turn + ", " + weather + ")",
                    () -> table.rule(turn, weather), () -> plain.rule(turn, weather));
            rulingsThatMattered += answer > 0 ? 1 : 0;
            return answer != STRAY;
        }
        return same(where + " appeal()", table::appeal, plain::appeal) != STRAY;
    }

    private boolean question(String where, int kind) {
        int unit = unit();
        int side = side();
        int turn = turn();
        int weather = weather();
        switch (kind % 11) {
            case 0:
                return same(where + " townOf(" + unit + ")", () -> table.townOf(unit), () -> plain.townOf(unit)) != STRAY;
            case 1:
                return same(where + " strength(" + unit + ")",
                        () -> table.strength(unit), () -> plain.strength(unit)) != STRAY;
            case 2:
            case 3:
                return same(where + " supply(" + unit + ", " + weather + ")",
                        () -> table.supply(unit, weather), () -> plain.supply(unit, weather)) != STRAY;
            case 4:
            case 5:
                return same(where + " townAfter(" + unit + ", " + turn + ")",
                        () -> table.townAfter(unit, turn), () -> plain.townAfter(unit, turn)) != STRAY;
            case 6:
            case 7:
                int told = same(where + " reported(" + side + ", " + unit + ")",
                        () -> table.reported(side, unit), () -> plain.reported(side, unit));
                reports += told >= 0 ? 1 : 0;
                return told != STRAY;
            case 8:
                return same(where + " force(" + side + ")", () -> table.force(side), () -> plain.force(side)) != STRAY;
            case 9:
                return same(where + " weather(" + turn + ")", () -> table.weather(turn), () -> plain.weather(turn)) != STRAY;
            default:
                return same(where + " played()", table::played, plain::played) != STRAY
                        && same(where + " rulings()", table::rulings, plain::rulings) != STRAY;
        }
    }

    /** The answer, LOST if both refuse the call, or STRAY if they do not answer alike. */
    private int same(String call, Due.Call got, Due.Call due) {
        int answer;
        try {
            answer = due.answer();
        } catch (RuntimeException refusal) {
            refused++;
            boolean[] isAlike = {false};
            Due.refuses(call, refusal.getClass(), () -> {
                try {
                    return got.answer();
                } catch (RuntimeException thrown) {
                    isAlike[0] = thrown.getClass() == refusal.getClass();
                    throw thrown;
                }
            });
            return isAlike[0] ? LOST : STRAY;
        }
        int[] gotten = {STRAY};
        try {
            gotten[0] = got.answer();
        } catch (RuntimeException thrown) {
            Due.complain(call + " threw " + thrown + ", due is " + answer);
        }
        Due.is(call, gotten[0], answer);
        return gotten[0] == answer ? answer : STRAY;
    }

    private int town() {
        return random.nextInt(30) == 0 ? stray(10) : random.nextInt(8) == 0 ? random.nextInt(10) : random.nextInt(mostTowns);
    }

    private int side() {
        return random.nextInt(30) == 0 ? stray(2) : random.nextInt(2);
    }

    private int unit() {
        return units == 0 || random.nextInt(30) == 0 ? stray(units) : random.nextInt(units);
    }

    private int turn() {
        return plain.played() == 0 || random.nextInt(30) == 0 ? stray(plain.played()) : random.nextInt(plain.played());
    }

    private int weather() {
        return random.nextInt(30) == 0 ? stray(3) : Math.max(0, random.nextInt(4) - 1);
    }

    /** A number that is not from 0 to below the bound. */
    private int stray(int bound) {
        int[] strays = {-1, -2, bound, bound + 1, 31, 32, Integer.MIN_VALUE, Integer.MAX_VALUE, -32, 1 << 30};
        return strays[random.nextInt(strays.length)];
    }
}
