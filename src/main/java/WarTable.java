/**
 * A wargame on a map of towns and roads. Two sides give hidden orders that are opened at once; the
 * umpire may change the weather of an earlier turn, and all is played again from there.
 *
 * <p>A set of towns or of units is an int with one bit for each member. A moment is a number too:
 * moment t is when turn t begins, so that moment t + 1 is when turn t is over.
 */
public final class WarTable {

    private static final int TOWNS = 10;
    private static final int SIDES = 2;
    private static final int WEATHERS = 3;
    private static final int DRY = 0;
    private static final int RAIN = 1;
    private static final int SNOW = 2;
    private static final int MOST_ROADS = 15;
    private static final int MOST_UNITS = 12;
    private static final int MOST_STRENGTH = 9;
    private static final int MOST_TURNS = 20;
    private static final int MOST_SUPPLY_ROADS = 4;
    private static final int TURNS_UNTIL_TOLD = 2;
    private static final int NONE = -1;

    /** The bits of an int: 1 << 32 would be 1 << 0 again. */
    private static final int MOST_MEMBERS = 32;

    /** An object is used for 512 calls, so no more rulings than that are ever promised. */
    private static final int MOST_RULINGS = 512;

    /** A moment behind all that are played: where the units stood ahead of a ruling. */
    private static final int AHEAD_OF_RULING = MOST_TURNS + 1;

    private static final int MOMENTS = MOST_TURNS + 2;

    private final RoadMap map = new RoadMap();
    private final int[] depots = new int[SIDES];
    private final Units units = new Units();
    private final int[] weathers = new int[MOST_TURNS];
    private final int[] seen = new int[MOST_TURNS];
    private final Rulings standing = new Rulings();
    private int turns = 0;

    /** Creates a map without roads and units, ahead of turn 0. */
    public WarTable() {
        depots[1] = TOWNS - 1;
    }

    // ---- the map and the units, ahead of turn 0

    /** Adds a road and returns how many roads there are then. */
    public int addRoad(int one, int other, boolean paved) throws IllegalArgumentException, IllegalStateException {
        if (!below(one, TOWNS) || !below(other, TOWNS) || one == other) {
            throw new IllegalArgumentException("a road joins two different towns from 0 to 9");
        }
        if (turns > 0 || map.joins(one, other) || map.roads() >= MOST_ROADS) {
            throw new IllegalStateException("no such road can be added any more");
        }
        map.join(one, other, paved);
        return map.roads();
    }

    /** Sets the depot of a side and returns the depot before. */
    public int setDepot(int side, int town) throws IllegalArgumentException, IllegalStateException {
        if (!below(side, SIDES) || !below(town, TOWNS)) {
            throw new IllegalArgumentException("a side is 0 or 1, a town 0 to 9");
        }
        if (turns > 0) {
            throw new IllegalStateException("a turn was played");
        }
        int before = depots[side];
        depots[side] = town;
        return before;
    }

    /** Adds a unit and returns its number. */
    public int addUnit(int side, int town, int strength) throws IllegalArgumentException, IllegalStateException {
        if (!below(side, SIDES) || !below(town, TOWNS) || strength < 1 || strength > MOST_STRENGTH) {
            throw new IllegalArgumentException("a side is 0 or 1, a town 0 to 9, a strength 1 to 9");
        }
        if (turns > 0 || has(units.townsHeld(turns, opponent(side)), town) || units.count() >= MOST_UNITS) {
            throw new IllegalStateException("no such unit can be added any more");
        }
        return units.add(side, town, strength);
    }

    // ---- turns

    /** Orders a unit to go to a town in the next turn and returns the order before, -1 for none. */
    public int order(int unit, int town) throws IndexOutOfBoundsException, IllegalArgumentException {
        checkUnit(unit);
        if (town != NONE && !below(town, TOWNS)) {
            throw new IllegalArgumentException("a town is 0 to 9, or -1 for no order");
        }
        int before = units.orderFor(turns, unit);
        units.giveOrder(turns, unit, town);
        return before;
    }

    /** Plays the next turn, with a weather, and returns how many units are lost in it. */
    public int play(int weather) throws IllegalArgumentException, IllegalStateException {
        checkWeather(weather);
        if (!below(turns, MOST_TURNS)) {
            throw new IllegalStateException("20 turns were played");
        }
        int turn = turns;
        weathers[turn] = weather;
        turns = turn + 1;
        playFrom(turn);
        return units.livingAt(turn) - units.livingAt(turn + 1);
    }

    /** Returns how many turns were played. */
    public int played() {
        return turns;
    }

    /** Changes the weather of a turn and returns how many units stand otherwise by that. */
    public int rule(int turn, int weather) throws IndexOutOfBoundsException, IllegalArgumentException {
        checkTurn(turn);
        checkWeather(weather);
        if (standing.isFull()) {
            // Only a call behind the 512th comes here, and its answer is free.
            return 0;
        }
        standing.push(turn, weathers[turn]);
        units.copyMoment(turns, AHEAD_OF_RULING);
        weathers[turn] = weather;
        playFrom(turn);
        return units.differing(AHEAD_OF_RULING, turns);
    }

    /** Takes the last ruling back that stands and returns its turn. */
    public int appeal() throws IllegalStateException {
        int turn = standing.lastTurn();
        if (!below(turn, MOST_TURNS)) {
            throw new IllegalStateException("no ruling stands");
        }
        weathers[turn] = standing.lastWeatherBefore();
        standing.pop();
        playFrom(turn);
        return turn;
    }

    // ---- what is

    /** Returns the town of a unit, -1 if it is lost. */
    public int townOf(int unit) throws IndexOutOfBoundsException {
        checkUnit(unit);
        return units.townAt(turns, unit);
    }

    /** Returns the strength of a unit. */
    public int strength(int unit) throws IndexOutOfBoundsException {
        checkUnit(unit);
        return units.strengthAt(turns, unit);
    }

    /** Returns over how many roads a unit would be supplied if a turn began now, or -1. */
    public int supply(int unit, int weather) throws IndexOutOfBoundsException, IllegalArgumentException {
        checkUnit(unit);
        checkWeather(weather);
        int town = units.townAt(turns, unit);
        for (int roads = 0; roads <= MOST_SUPPLY_ROADS; roads++) {
            if (has(suppliedTowns(turns, units.sideOf(unit), weather, roads), town)) {
                return roads;
            }
        }
        return NONE;
    }

    /** Returns in which town a unit was when a turn was over, -1 if it was lost. */
    public int townAfter(int unit, int turn) throws IndexOutOfBoundsException {
        checkUnit(unit);
        checkTurn(turn);
        return units.townAt(turn + 1, unit);
    }

    /** Returns where a side was told last that a unit of the other side is, or -1. */
    public int reported(int side, int unit) throws IllegalArgumentException, IndexOutOfBoundsException {
        checkSide(side);
        checkUnit(unit);
        if (units.sideOf(unit) == side) {
            throw new IndexOutOfBoundsException("the unit is one of the side");
        }
        for (int turn = Math.min(turns, MOST_TURNS) - 1 - TURNS_UNTIL_TOLD; turn >= 0; turn--) {
            if (has(seen[turn], unit)) {
                return units.townAt(turn + 1, unit);
            }
        }
        return NONE;
    }

    /** Returns the sum of the strengths of a side. */
    public int force(int side) throws IllegalArgumentException {
        checkSide(side);
        int sum = 0;
        for (int unit = 0; unit < units.count(); unit++) {
            if (units.sideOf(unit) == side) {
                sum += units.strengthAt(turns, unit);
            }
        }
        return sum;
    }

    /** Returns the weather of a turn, as it was played last. */
    public int weather(int turn) throws IndexOutOfBoundsException {
        checkTurn(turn);
        return weathers[turn];
    }

    /** Returns how many rulings there were that no appeal has taken back. */
    public int rulings() {
        return standing.count();
    }

    // ---- arguments

    private static void checkSide(int side) {
        if (!below(side, SIDES)) {
            throw new IllegalArgumentException("a side is 0 or 1");
        }
    }

    private static void checkWeather(int weather) {
        if (!below(weather, WEATHERS)) {
            throw new IllegalArgumentException("a weather is 0 to 2");
        }
    }

    private void checkUnit(int unit) {
        if (!below(unit, units.count())) {
            throw new IndexOutOfBoundsException("there is no such unit");
        }
    }

    /** What passes here is an index of weathers and of seen, too. */
    private void checkTurn(int turn) {
        if (!below(turn, Math.min(turns, MOST_TURNS))) {
            throw new IndexOutOfBoundsException("no such turn was played");
        }
    }

    // ---- how a turn is played

    /** Plays a turn and all later ones that were played, with the units as they were at its moment. */
    private void playFrom(int first) {
        for (int turn = Math.max(first, 0); turn < turns && turn < MOST_TURNS; turn++) {
            int weather = weathers[turn];
            int supplied = suppliedUnits(turn, weather);
            march(turn, goers(turn, weather, supplied));
            fightEverywhere(turn + 1, supplied);
            seen[turn] = unitsInSight(turn + 1);
        }
    }

    /** The towns from which the depot of a side is reached safely over at most so many roads. */
    private int suppliedTowns(int moment, int side, int weather, int roads) {
        if (!below(side, SIDES)) {
            return 0;
        }
        int safe = ~units.townsHeld(moment, opponent(side));
        int towns = bit(depots[side]) & safe;
        for (int road = 0; road < roads; road++) {
            towns = map.widened(towns, weather) & safe;
        }
        return towns;
    }

    private int suppliedUnits(int moment, int weather) {
        int towns0 = suppliedTowns(moment, 0, weather, MOST_SUPPLY_ROADS);
        int towns1 = suppliedTowns(moment, 1, weather, MOST_SUPPLY_ROADS);
        int supplied = 0;
        for (int unit = 0; unit < units.count(); unit++) {
            if (has(units.sideOf(unit) == 0 ? towns0 : towns1, units.townAt(moment, unit))) {
                supplied |= bit(unit);
            }
        }
        return supplied;
    }

    /** The units that would go, whether or not one comes against them on the road. */
    private int goers(int turn, int weather, int supplied) {
        int goers = 0;
        for (int unit = 0; unit < units.count(); unit++) {
            int open = map.nextOverOpen(units.townAt(turn, unit), weather);
            if (has(supplied, unit) && has(open, units.orderFor(turn, unit))) {
                goers |= bit(unit);
            }
        }
        return goers;
    }

    private void march(int turn, int goers) {
        for (int unit = 0; unit < units.count(); unit++) {
            boolean goes = has(goers, unit) && !isMetOnRoad(turn, unit, goers);
            int town = goes ? units.orderFor(turn, unit) : units.townAt(turn, unit);
            units.place(turn + 1, unit, town, units.strengthAt(turn, unit));
        }
    }

    private boolean isMetOnRoad(int turn, int unit, int goers) {
        for (int other = 0; other < units.count(); other++) {
            if (has(goers, other) && units.sideOf(other) != units.sideOf(unit)
                    && units.townAt(turn, other) == units.orderFor(turn, unit)
                    && units.orderFor(turn, other) == units.townAt(turn, unit)) {
                return true;
            }
        }
        return false;
    }

    private void fightEverywhere(int moment, int supplied) {
        int contested = units.townsHeld(moment, 0) & units.townsHeld(moment, 1);
        for (int town = 0; town < TOWNS; town++) {
            if (has(contested, town)) {
                fight(moment, town, supplied);
            }
        }
    }

    private void fight(int moment, int town, int supplied) {
        int sum0 = sumInFight(moment, town, 0, supplied);
        int sum1 = sumInFight(moment, town, 1, supplied);
        for (int unit = 0; unit < units.count(); unit++) {
            if (units.townAt(moment, unit) == town) {
                int loss = units.sideOf(unit) == 0 ? loss(sum0, sum1) : loss(sum1, sum0);
                units.place(moment, unit, town, units.strengthAt(moment, unit) - loss);
            }
        }
    }

    private int sumInFight(int moment, int town, int side, int supplied) {
        int sum = 0;
        for (int unit = 0; unit < units.count(); unit++) {
            if (units.sideOf(unit) == side && units.townAt(moment, unit) == town) {
                int full = units.strengthAt(moment, unit);
                sum += has(supplied, unit) ? full : full / 2;
            }
        }
        return sum;
    }

    /** What each unit of a side with its own sum loses against the other sum. */
    private static int loss(int own, int other) {
        if (own < other) {
            return 2;
        }
        if (own == other) {
            return 1;
        }
        return 2 * other > own ? 1 : 0;
    }

    /** The units that the side against them sees. */
    private int unitsInSight(int moment) {
        // In dry weather all roads are open, and sight goes over closed ones too.
        int view0 = map.widened(units.townsHeld(moment, 0), DRY);
        int view1 = map.widened(units.townsHeld(moment, 1), DRY);
        int inSight = 0;
        for (int unit = 0; unit < units.count(); unit++) {
            if (has(units.sideOf(unit) == 0 ? view1 : view0, units.townAt(moment, unit))) {
                inSight |= bit(unit);
            }
        }
        return inSight;
    }

    // ---- numbers and sets

    private static boolean below(int number, int bound) {
        return number >= 0 && number < bound;
    }

    private static int opponent(int side) {
        return 1 - side;
    }

    private static int bit(int member) {
        return 1 << member;
    }

    /** Whether a set has a member; -1, a lost unit's town or no order, is in none. */
    private static boolean has(int set, int member) {
        return member >= 0 && member < MOST_MEMBERS && (set & bit(member)) != 0;
    }

    /** The roads: for each town, the sets of towns next to it. */
    private static final class RoadMap {

        private final int[] nextOverPaved = new int[TOWNS];
        private final int[] nextOverUnpaved = new int[TOWNS];
        private int roads = 0;

        int roads() {
            return roads;
        }

        boolean joins(int one, int other) {
            return has(nextOverOpen(one, DRY), other);
        }

        void join(int one, int other, boolean paved) {
            if (!below(one, TOWNS) || !below(other, TOWNS)) {
                return;
            }
            int[] next = paved ? nextOverPaved : nextOverUnpaved;
            next[one] |= bit(other);
            next[other] |= bit(one);
            roads++;
        }

        /** The towns next to a town over roads that are open in a weather. */
        int nextOverOpen(int town, int weather) {
            if (!below(town, TOWNS) || weather == SNOW) {
                return 0;
            }
            return weather == RAIN ? nextOverPaved[town] : nextOverPaved[town] | nextOverUnpaved[town];
        }

        /** These towns, and those next to them over roads that are open in a weather. */
        int widened(int towns, int weather) {
            int wider = towns;
            for (int town = 0; town < TOWNS; town++) {
                if (has(towns, town)) {
                    wider |= nextOverOpen(town, weather);
                }
            }
            return wider;
        }
    }

    /** The units, with town and strength at every moment and the order for every turn. */
    private static final class Units {

        private final int[] sides = new int[MOST_UNITS];
        private final int[] towns = new int[MOMENTS * MOST_UNITS];
        private final int[] strengths = new int[MOMENTS * MOST_UNITS];

        /** One more than the town, so that 0, with which a new array is filled, is no order. */
        private final int[] orders = new int[MOMENTS * MOST_UNITS];

        private int count = 0;

        int count() {
            return count;
        }

        /** Adds a unit at moment 0 and returns its number. */
        int add(int side, int town, int strength) {
            int unit = count;
            if (!below(unit, MOST_UNITS)) {
                return NONE;
            }
            sides[unit] = side;
            count = unit + 1;
            place(0, unit, town, strength);
            return unit;
        }

        int sideOf(int unit) {
            return below(unit, MOST_UNITS) ? sides[unit] : NONE;
        }

        /** The town of a unit, NONE if it is lost. */
        int townAt(int moment, int unit) {
            return isKept(moment, unit) ? towns[index(moment, unit)] : NONE;
        }

        int strengthAt(int moment, int unit) {
            return isKept(moment, unit) ? strengths[index(moment, unit)] : 0;
        }

        int orderFor(int turn, int unit) {
            return isKept(turn, unit) ? orders[index(turn, unit)] - 1 : NONE;
        }

        void giveOrder(int turn, int unit, int town) {
            if (isKept(turn, unit)) {
                orders[index(turn, unit)] = town + 1;
            }
        }

        /** Puts a unit in a town with a strength; one without strength is lost, and in no town. */
        void place(int moment, int unit, int town, int strength) {
            if (isKept(moment, unit)) {
                towns[index(moment, unit)] = strength > 0 ? town : NONE;
                strengths[index(moment, unit)] = Math.max(strength, 0);
            }
        }

        void copyMoment(int from, int to) {
            for (int unit = 0; unit < count; unit++) {
                place(to, unit, townAt(from, unit), strengthAt(from, unit));
            }
        }

        /** How many units have another town or strength at one moment than at the other. */
        int differing(int one, int other) {
            int differing = 0;
            for (int unit = 0; unit < count; unit++) {
                if (townAt(one, unit) != townAt(other, unit) || strengthAt(one, unit) != strengthAt(other, unit)) {
                    differing++;
                }
            }
            return differing;
        }

        int livingAt(int moment) {
            int living = 0;
            for (int unit = 0; unit < count; unit++) {
                if (townAt(moment, unit) != NONE) {
                    living++;
                }
            }
            return living;
        }

        /** The towns in which a side has units that are not lost. */
        int townsHeld(int moment, int side) {
            int held = 0;
            for (int unit = 0; unit < count; unit++) {
                int town = townAt(moment, unit);
                if (sideOf(unit) == side && town != NONE) {
                    held |= bit(town);
                }
            }
            return held;
        }

        private static boolean isKept(int moment, int unit) {
            return moment >= 0 && moment < MOMENTS && unit >= 0 && unit < MOST_UNITS;
        }

        private static int index(int moment, int unit) {
            return moment * MOST_UNITS + unit;
        }
    }

    /** The rulings that no appeal has taken back, the last one on top. */
    private static final class Rulings {

        private final int[] turns = new int[MOST_RULINGS];
        private final int[] weathersBefore = new int[MOST_RULINGS];
        private int count = 0;

        int count() {
            return count;
        }

        boolean isFull() {
            return count >= MOST_RULINGS;
        }

        void push(int turn, int weatherBefore) {
            if (below(count, MOST_RULINGS)) {
                turns[count] = turn;
                weathersBefore[count] = weatherBefore;
                count++;
            }
        }

        void pop() {
            if (count > 0) {
                count--;
            }
        }

        int lastTurn() {
            return below(count - 1, MOST_RULINGS) ? turns[count - 1] : NONE;
        }

        int lastWeatherBefore() {
            return below(count - 1, MOST_RULINGS) ? weathersBefore[count - 1] : DRY;
        }
    }
}
