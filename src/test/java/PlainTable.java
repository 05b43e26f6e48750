import java.util.ArrayDeque;
import java.util.ArrayList;
import java.util.Arrays;
import java.util.Deque;
import java.util.HashMap;
import java.util.HashSet;
import java.util.List;
import java.util.Map;
import java.util.Set;

/**
 * The document read once more, as plainly as can be and without a thought for speed: it keeps only
 * what was said (roads, depots, units, orders, weathers) and plays all turns from turn 0 whenever
 * more was said. RandomRunsTest holds WarTable against it. It takes right and wrong arguments alike.
 */
final class PlainTable {

    private record Road(int one, int other, boolean paved) {
        boolean joins(int from, int to) {
            return one == from && other == to || one == to && other == from;
        }

        boolean isOpen(int weather) {
            return weather == 0 || weather == 1 && paved;
        }
    }

    private record Unit(int side, int town, int strength) {
        boolean isLost() {
            return strength == 0;
        }

        int shownTown() {
            return isLost() ? -1 : town;
        }
    }

    private record Ruling(int turn, int weatherBefore) {
    }

    /** What playing all turns gives: the units after each turn, and who was seen where in each. */
    private static final class History {
        final List<List<Unit>> units = new ArrayList<>();
        final List<Map<Integer, Integer>> sights = new ArrayList<>();
    }

    private final List<Road> roads = new ArrayList<>();
    private final int[] depots = {0, 9};
    private final List<Unit> units = new ArrayList<>();
    private final List<Map<Integer, Integer>> orders = new ArrayList<>();
    private final List<Integer> weathers = new ArrayList<>();
    private final Deque<Ruling> rulings = new ArrayDeque<>();
    private Map<Integer, Integer> nextOrders = new HashMap<>();

    /** The history of what was said until now, or null when more was said since it was played. */
    private History known = null;

    int addRoad(int one, int other, boolean paved) {
        if (isNo(one, 10) || isNo(other, 10) || one == other) {
            throw new IllegalArgumentException();
        }
        boolean joined = false;
        for (Road road : roads) {
            joined |= road.joins(one, other);
        }
        if (played() > 0 || joined || roads.size() == 15) {
            throw new IllegalStateException();
        }
        roads.add(new Road(one, other, paved));
        return roads.size();
    }

    int setDepot(int side, int town) {
        if (isNo(side, 2) || isNo(town, 10)) {
            throw new IllegalArgumentException();
        }
        if (played() > 0) {
            throw new IllegalStateException();
        }
        int before = depots[side];
        depots[side] = town;
        return before;
    }

    int addUnit(int side, int town, int strength) {
        if (isNo(side, 2) || isNo(town, 10) || strength < 1 || strength > 9) {
            throw new IllegalArgumentException();
        }
        if (played() > 0 || hasUnitOf(1 - side, town, units) || units.size() == 12) {
            throw new IllegalStateException();
        }
        units.add(new Unit(side, town, strength));
        return units.size() - 1;
    }

    int order(int unit, int town) {
        needUnit(unit);
        if (town < -1 || town > 9) {
            throw new IllegalArgumentException();
        }
        Integer before = town == -1 ? nextOrders.remove(unit) : nextOrders.put(unit, town);
        return before == null ? -1 : before;
    }

    int play(int weather) {
        if (isNo(weather, 3)) {
            throw new IllegalArgumentException();
        }
        if (played() == 20) {
            throw new IllegalStateException();
        }
        long before = now().stream().filter(Unit::isLost).count();
        weathers.add(weather);
        orders.add(nextOrders);
        nextOrders = new HashMap<>();
        known = null;
        return (int) (now().stream().filter(Unit::isLost).count() - before);
    }

    int played() {
        return weathers.size();
    }

    int rule(int turn, int weather) {
        needTurn(turn);
        if (isNo(weather, 3)) {
            throw new IllegalArgumentException();
        }
        List<Unit> before = now();
        rulings.push(new Ruling(turn, weathers.get(turn)));
        weathers.set(turn, weather);
        known = null;
        List<Unit> after = now();
        int others = 0;
        for (int i = 0; i < units.size(); i++) {
            Unit was = before.get(i);
            Unit is = after.get(i);
            others += was.shownTown() != is.shownTown() || was.strength() != is.strength() ? 1 : 0;
        }
        return others;
    }

    int appeal() {
        if (rulings.isEmpty()) {
            throw new IllegalStateException();
        }
        Ruling last = rulings.pop();
        weathers.set(last.turn(), last.weatherBefore());
        known = null;
        return last.turn();
    }

    int townOf(int unit) {
        needUnit(unit);
        return now().get(unit).shownTown();
    }

    int strength(int unit) {
        needUnit(unit);
        return now().get(unit).strength();
    }

    int supply(int unit, int weather) {
        needUnit(unit);
        if (isNo(weather, 3)) {
            throw new IllegalArgumentException();
        }
        return supplyRoads(now().get(unit), weather, now());
    }

    int townAfter(int unit, int turn) {
        needUnit(unit);
        needTurn(turn);
        return history().units.get(turn).get(unit).shownTown();
    }

    int reported(int side, int unit) {
        if (isNo(side, 2)) {
            throw new IllegalArgumentException();
        }
        needUnit(unit);
        if (units.get(unit).side() == side) {
            throw new IndexOutOfBoundsException();
        }
        List<Map<Integer, Integer>> sights = history().sights;
        int told = -1;
        for (int turn = 0; turn < sights.size(); turn++) {
            boolean hasCome = turn + 2 < played();
            if (hasCome && sights.get(turn).containsKey(unit)) {
                told = sights.get(turn).get(unit);
            }
        }
        return told;
    }

    int force(int side) {
        if (isNo(side, 2)) {
            throw new IllegalArgumentException();
        }
        return now().stream().filter(u -> u.side() == side).mapToInt(Unit::strength).sum();
    }

    int weather(int turn) {
        needTurn(turn);
        return weathers.get(turn);
    }

    int rulings() {
        return rulings.size();
    }

    private static boolean isNo(int number, int bound) {
        return number < 0 || number >= bound;
    }

    private void needUnit(int unit) {
        if (isNo(unit, units.size())) {
            throw new IndexOutOfBoundsException();
        }
    }

    private void needTurn(int turn) {
        if (isNo(turn, played())) {
            throw new IndexOutOfBoundsException();
        }
    }

    private List<Unit> now() {
        return played() == 0 ? units : history().units.get(played() - 1);
    }

    private History history() {
        if (known != null) {
            return known;
        }
        History history = new History();
        List<Unit> standing = units;
        for (int turn = 0; turn < played(); turn++) {
            standing = afterTurn(standing, weathers.get(turn), orders.get(turn));
            history.units.add(standing);
            history.sights.add(sight(standing));
        }
        known = history;
        return history;
    }

    private List<Unit> afterTurn(List<Unit> began, int weather, Map<Integer, Integer> given) {
        Set<Integer> supplied = new HashSet<>();
        Map<Integer, Integer> going = new HashMap<>();
        for (int i = 0; i < began.size(); i++) {
            Unit unit = began.get(i);
            if (supplyRoads(unit, weather, began) >= 0) {
                supplied.add(i);
                if (given.containsKey(i) && isOpenRoad(unit.town(), given.get(i), weather)) {
                    going.put(i, given.get(i));
                }
            }
        }
        List<Unit> marched = new ArrayList<>();
        for (int i = 0; i < began.size(); i++) {
            Unit unit = began.get(i);
            boolean stays = !going.containsKey(i);
            for (int j : going.keySet()) {
                Unit other = began.get(j);
                stays |= !stays && other.side() != unit.side()
                        && other.town() == going.get(i) && going.get(j) == unit.town();
            }
            marched.add(stays ? unit : new Unit(unit.side(), going.get(i), unit.strength()));
        }
        return afterFights(marched, supplied);
    }

    private static List<Unit> afterFights(List<Unit> marched, Set<Integer> supplied) {
        List<Unit> fought = new ArrayList<>(marched);
        for (int town = 0; town < 10; town++) {
            if (!hasUnitOf(0, town, marched) || !hasUnitOf(1, town, marched)) {
                continue;
            }
            int[] sums = new int[2];
            for (int i = 0; i < marched.size(); i++) {
                Unit unit = marched.get(i);
                if (unit.shownTown() == town) {
                    sums[unit.side()] += (int) Math.floor(unit.strength() * (supplied.contains(i) ? 1.0 : 0.5));
                }
            }
            for (int i = 0; i < marched.size(); i++) {
                Unit unit = marched.get(i);
                if (unit.shownTown() == town) {
                    int lost = lost(sums[unit.side()], sums[1 - unit.side()]);
                    fought.set(i, new Unit(unit.side(), town, Math.max(0, unit.strength() - lost)));
                }
            }
        }
        return fought;
    }

    private static int lost(int own, int other) {
        if (own == other) {
            return 1;
        }
        if (own < other) {
            return 2;
        }
        return other > own / 2.0 ? 1 : 0;
    }

    /** For each unit that the other side sees, its town. */
    private Map<Integer, Integer> sight(List<Unit> standing) {
        Map<Integer, Integer> seen = new HashMap<>();
        for (int i = 0; i < standing.size(); i++) {
            Unit unit = standing.get(i);
            for (Unit watcher : standing) {
                boolean sees = watcher.town() == unit.town() || isOpenRoad(watcher.town(), unit.town(), 0);
                if (!unit.isLost() && !watcher.isLost() && watcher.side() != unit.side() && sees) {
                    seen.put(i, unit.town());
                }
            }
        }
        return seen;
    }

    private int supplyRoads(Unit unit, int weather, List<Unit> standing) {
        if (unit.isLost()) {
            return -1;
        }
        int[] fewest = {5};
        walk(unit.town(), unit.side(), 0, weather, standing, fewest);
        return fewest[0] == 5 ? -1 : fewest[0];
    }

    /** Tries every way of at most four roads. */
    private void walk(int town, int side, int gone, int weather, List<Unit> standing, int[] fewest) {
        if (gone >= fewest[0] || hasUnitOf(1 - side, town, standing)) {
            return;
        }
        if (town == depots[side]) {
            fewest[0] = gone;
            return;
        }
        for (Road road : roads) {
            if (road.isOpen(weather) && (road.one() == town || road.other() == town)) {
                walk(road.one() + road.other() - town, side, gone + 1, weather, standing, fewest);
            }
        }
    }

    private boolean isOpenRoad(int from, int to, int weather) {
        for (Road road : roads) {
            if (road.joins(from, to) && road.isOpen(weather)) {
                return true;
            }
        }
        return false;
    }

    private static boolean hasUnitOf(int side, int town, List<Unit> standing) {
        for (Unit unit : standing) {
            if (unit.side() == side && unit.shownTown() == town) {
                return true;
            }
        }
        return false;
    }

    @Override
    public String toString() {
        return roads + " " + Arrays.toString(depots) + " " + units + " " + weathers + " " + orders;
    }
}
