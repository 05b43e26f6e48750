import java.util.ArrayList;
import java.util.List;

/**
 * The bounds that the document names, one sentence after the other: the last value that is allowed and the
 * first that is not, on each side, the empty and the full case, and values that would wrap around.
 */
public final class BoundsTest {

    /**
     * Below 0, far away, and what would wrap around to a number that is allowed: 1 << 32 is 1 << 0 again, and
     * 357913942 * 12 is 8.
     */
    private static final int[] FAR = {
        -1, -2, -10, -12, -31, -32, -33, -256, Integer.MIN_VALUE, Integer.MIN_VALUE + 1, Integer.MIN_VALUE + 9,
        31, 32, 33, 41, 64, 256, 1 << 16, 1 << 30, 357913941, 357913942, Integer.MAX_VALUE - 1, Integer.MAX_VALUE,
    };

    public static void main(String[] args) {
        townsAre0To9();
        townsBeyondAreRefused();
        roadJoinsTwoDifferentTowns();
        atMost15Roads();
        atMost15RoadsAreAllOfUse();
        refusedRoadsAreNotCounted();
        roadIsPavedOrNot();
        sidesAre0And1();
        sidesBeyondAreRefused();
        depotsAreAtFirst0And9();
        depotsMayBeTheSameTown();
        depotMayBeWhereUnitsAre();
        unitsAreNumberedFrom0();
        unitsBeyondAreRefused();
        atMost12Units();
        atMost12UnitsAreAllOfUse();
        strengthIs1To9();
        turnsAreNumberedFrom0();
        turnsBeyondAreRefused();
        atMost20Turns();
        turnEndsAllThatIsAheadOfTurn0();
        weatherIs0To2();
        weathersBeyondAreRefused();
        ordersAreTowns0To9OrNone();
        anObjectIsUsedFor512Calls();
        Due.end();
    }

    /** What is no number from 0 to below the bound. */
    private static int[] beyond(int bound) {
        int[] beyond = new int[FAR.length + 2];
        System.arraycopy(FAR, 0, beyond, 2, FAR.length);
        beyond[0] = bound;
        beyond[1] = bound + 1;
        return beyond;
    }

    private static void refuses(WarTable x, String call, String due) {
        Due.is(call, Script.Call.of(call).answerOf(x), due);
    }

    /** All 45 roads, so that 15 of them can be chosen. */
    private static List<int[]> pairs() {
        List<int[]> pairs = new ArrayList<>();
        for (int one = 0; one < 10; one++) {
            for (int other = one + 1; other < 10; other++) {
                pairs.add(new int[] {one, other});
            }
        }
        return pairs;
    }

    private static WarTable fullMap() {
        WarTable x = new WarTable();
        for (int road = 0; road < 15; road++) {
            int[] pair = pairs().get(road);
            x.addRoad(pair[0], pair[1], true);
        }
        return x;
    }

    private static WarTable played(int turns) {
        WarTable x = new WarTable();
        x.addUnit(0, 0, 1);
        for (int turn = 0; turn < turns; turn++) {
            x.play(0);
        }
        return x;
    }

    // "Towns are 0 to 9." ("one: 0 to 9", "other: 0 to 9", "town: 0 to 9")

    private static void townsAre0To9() {
        for (int town = 0; town < 10; town++) {
            WarTable x = new WarTable();
            Due.is("setDepot(0, " + town + ")", x.setDepot(0, town), 0);
            Due.is("setDepot(1, " + town + ")", x.setDepot(1, town), 9);
            Due.is("setDepot(0, 5), the depot before", x.setDepot(0, 5), town);
            Due.is("setDepot(1, 5), the depot before", x.setDepot(1, 5), town);
            for (int side = 0; side < 2; side++) {
                WarTable y = new WarTable();
                y.setDepot(side, town);
                Due.is("addUnit(" + side + ", " + town + ", 1)", y.addUnit(side, town, 1), 0);
                Due.is("townOf(0) put in " + town, y.townOf(0), town);
                Due.is("supply(0, 2) at the depot " + town, y.supply(0, 2), 0);
                y.play(2);
                Due.is("townAfter(0, 0) in " + town, y.townAfter(0, 0), town);
            }
        }
    }

    private static void townsBeyondAreRefused() {
        for (int town : beyond(10)) {
            WarTable x = new WarTable();
            x.addUnit(0, 0, 1);
            refuses(x, "addRoad " + town + " 0 1", Script.ARGUMENT);
            refuses(x, "addRoad 9 " + town + " 1", Script.ARGUMENT);
            refuses(x, "addRoad " + town + " " + town + " 0", Script.ARGUMENT);
            refuses(x, "setDepot 0 " + town, Script.ARGUMENT);
            refuses(x, "setDepot 1 " + town, Script.ARGUMENT);
            refuses(x, "addUnit 0 " + town + " 1", Script.ARGUMENT);
            refuses(x, "addUnit 1 " + town + " 9", Script.ARGUMENT);
            if (town != -1) {
                refuses(x, "order 0 " + town, Script.ARGUMENT);
            }
            Script.go("after a town " + town, x, "addRoad 0 9 1 = 1", "setDepot 0 0 = 0", "setDepot 1 9 = 9",
                    "addUnit 1 9 1 = 1", "order 0 9 = -1");
        }
    }

    // "a road joins two different towns" ("other: 0 to 9, another town", "or both are the same",
    // "there is a road between them")

    private static void roadJoinsTwoDifferentTowns() {
        for (int one = 0; one < 10; one++) {
            for (int other = 0; other < 10; other++) {
                WarTable x = new WarTable();
                String there = one + " " + other;
                String back = other + " " + one;
                if (one == other) {
                    Script.go("a town with itself", x, "addRoad " + there + " 1 = !Argument",
                            "addRoad " + there + " 0 = !Argument");
                } else {
                    Script.go("a road twice", x, "addRoad " + there + " 1 = 1", "addRoad " + there + " 1 = !State",
                            "addRoad " + there + " 0 = !State", "addRoad " + back + " 1 = !State",
                            "addRoad " + back + " 0 = !State");
                }
            }
        }
    }

    // "There are at most 15 roads" ("or there are 15")

    private static void atMost15Roads() {
        WarTable x = new WarTable();
        List<int[]> pairs = pairs();
        for (int road = 0; road < pairs.size(); road++) {
            String call = "addRoad " + pairs.get(road)[0] + " " + pairs.get(road)[1] + " " + road % 2;
            refuses(x, call, road < 15 ? String.valueOf(road + 1) : Script.STATE);
        }
        Script.go("a full map", x, "addRoad 0 1 1 = !State", "addRoad 9 8 1 = !State", "addRoad 10 0 1 = !Argument",
                "addRoad 0 -1 1 = !Argument", "addRoad 9 9 1 = !Argument");
    }

    private static void atMost15RoadsAreAllOfUse() {
        for (int full = 0; full < 3; full++) {
            // Other 15 roads each time; the first and the last of them have to be roads as the others are.
            for (int road = 0; road < 15; road++) {
                int[] pair = pairs().get(full * 15 + road);
                WarTable x = new WarTable();
                for (int i = 0; i < 15; i++) {
                    int[] other = pairs().get(full * 15 + i);
                    x.addRoad(other[0], other[1], true);
                }
                x.setDepot(0, pair[0]);
                x.addUnit(0, pair[1], 1);
                Due.is("supply over road " + road, x.supply(0, 1), 1);
                x.order(0, pair[0]);
                x.play(1);
                Due.is("townOf(0) over road " + road, x.townOf(0), pair[0]);
            }
        }
        WarTable y = fullMap();
        Due.is("the 15th road is 1-7", Script.Call.of("addRoad 1 7 1").answerOf(y), Script.STATE);
        y.setDepot(0, 8);
        y.addUnit(0, 7, 1);
        Due.refuses("a 16th road to the depot", IllegalStateException.class, () -> y.addRoad(7, 8, true));
        Due.is("supply round a road that was refused", y.supply(0, 0), 2);
    }

    private static void refusedRoadsAreNotCounted() {
        WarTable x = new WarTable();
        for (int road = 0; road < 15; road++) {
            int[] pair = pairs().get(road);
            Script.go("road " + road, x, "addRoad 5 5 1 = !Argument", "addRoad 5 10 1 = !Argument",
                    "addRoad " + pair[0] + " " + pair[1] + " 0 = " + (road + 1),
                    "addRoad " + pair[1] + " " + pair[0] + " 1 = !State");
        }
    }

    // "and is paved or not" ("paved: whether it is paved")

    private static void roadIsPavedOrNot() {
        Script.run("a paved road", "addRoad 0 1 1 = 1", "addUnit 0 1 1", "supply 0 0 = 1", "supply 0 1 = 1",
                "supply 0 2 = -1");
        Script.run("a road that is not paved", "addRoad 1 0 0 = 1", "addUnit 0 1 1", "supply 0 0 = 1",
                "supply 0 1 = -1", "supply 0 2 = -1");
    }

    // "Sides are 0 and 1." ("side: 0 or 1")

    private static void sidesAre0And1() {
        Script.run("both sides", "setDepot 0 3 = 0", "setDepot 1 4 = 9", "addUnit 0 3 2 = 0", "addUnit 1 4 3 = 1",
                "force 0 = 2", "force 1 = 3", "reported 0 1 = -1", "reported 1 0 = -1");
    }

    private static void sidesBeyondAreRefused() {
        for (int side : beyond(2)) {
            WarTable x = new WarTable();
            x.addUnit(0, 0, 1);
            x.addUnit(1, 9, 1);
            refuses(x, "setDepot " + side + " 3", Script.ARGUMENT);
            refuses(x, "addUnit " + side + " 3 1", Script.ARGUMENT);
            refuses(x, "reported " + side + " 0", Script.ARGUMENT);
            refuses(x, "reported " + side + " 1", Script.ARGUMENT);
            refuses(x, "force " + side, Script.ARGUMENT);
            Script.go("after a side " + side, x, "setDepot 0 0 = 0", "setDepot 1 9 = 9", "addUnit 1 3 1 = 2");
        }
    }

    // "Each side has a depot, a town: at first 0 for side 0 and 9 for side 1."

    private static void depotsAreAtFirst0And9() {
        Script.run("the first depots", "setDepot 1 9 = 9", "setDepot 0 0 = 0");
        Script.run("supply from the first depots", "addUnit 0 0 1", "addUnit 0 9 1", "supply 0 2 = 0", "supply 1 2 = -1");
        Script.run("supply of side 1", "addUnit 1 0 1", "addUnit 1 9 1", "supply 0 2 = -1", "supply 1 2 = 0");
    }

    private static void depotsMayBeTheSameTown() {
        Script.run("one depot for both", "setDepot 0 5 = 0", "setDepot 1 5 = 9", "addRoad 4 5 1", "addRoad 5 6 1",
                "addUnit 0 4 1", "addUnit 1 6 1", "supply 0 0 = 1", "supply 1 0 = 1", "setDepot 0 0 = 5",
                "setDepot 1 0 = 5", "supply 0 0 = -1", "supply 1 0 = -1");
    }

    private static void depotMayBeWhereUnitsAre() {
        Script.run("a depot among the other side's units", "addUnit 1 5 1 = 0", "addUnit 0 0 1 = 1",
                "setDepot 0 5 = 0", "setDepot 0 5 = 5", "supply 1 0 = -1", "setDepot 1 5 = 9", "supply 0 0 = 0");
    }

    // "Units are numbered from 0" ("Returns its number.", "if there is no such unit")

    private static void unitsAreNumberedFrom0() {
        for (int units = 0; units <= 12; units++) {
            WarTable x = new WarTable();
            for (int unit = 0; unit < units; unit++) {
                Due.is("the number of unit " + unit, x.addUnit(unit % 2, unit % 2 * 9, 1 + unit % 9), unit);
            }
            for (int unit = 0; unit < units; unit++) {
                Script.go("unit " + unit + " of " + units, x, "townOf " + unit + " = " + unit % 2 * 9,
                        "strength " + unit + " = " + (1 + unit % 9), "supply " + unit + " 0 = 0",
                        "order " + unit + " 4 = -1", "reported " + (1 - unit % 2) + " " + unit + " = -1");
            }
            refusesUnits(x, new int[] {-1, units, units + 1, 12});
            x.play(0);
            refusesUnits(x, new int[] {-1, units, units + 1, 12});
        }
    }

    private static void unitsBeyondAreRefused() {
        WarTable x = played(1);
        refusesUnits(x, beyond(1));
        WarTable y = new WarTable();
        for (int unit = 0; unit < 12; unit++) {
            y.addUnit(0, 0, 1);
        }
        y.play(0);
        refusesUnits(y, beyond(12));
    }

    private static void refusesUnits(WarTable x, int[] units) {
        for (int unit : units) {
            refuses(x, "order " + unit + " 0", Script.INDEX);
            refuses(x, "order " + unit + " -1", Script.INDEX);
            refuses(x, "townOf " + unit, Script.INDEX);
            refuses(x, "strength " + unit, Script.INDEX);
            refuses(x, "supply " + unit + " 0", Script.INDEX);
            refuses(x, "townAfter " + unit + " 0", Script.INDEX);
            refuses(x, "reported 0 " + unit, Script.INDEX);
            refuses(x, "reported 1 " + unit, Script.INDEX);
        }
    }

    // "there are at most 12" ("or there are 12 units")

    private static void atMost12Units() {
        WarTable x = new WarTable();
        for (int unit = 0; unit < 12; unit++) {
            Script.go("unit " + unit, x, "addUnit 0 10 1 = !Argument", "addUnit 0 0 10 = !Argument",
                    "addUnit 0 0 9 = " + unit, "addUnit 1 0 9 = !State");
        }
        for (int town = 0; town < 10; town++) {
            refuses(x, "addUnit 0 " + town + " 1", Script.STATE);
            refuses(x, "addUnit 1 " + town + " 9", Script.STATE);
        }
        Script.go("12 units", x, "force 0 = 108", "force 1 = 0", "addUnit 2 0 1 = !Argument",
                "addUnit 0 -1 1 = !Argument", "addUnit 0 0 0 = !Argument", "townOf 11 = 0", "townOf 12 = !Index");
    }

    private static void atMost12UnitsAreAllOfUse() {
        WarTable x = new WarTable();
        x.addRoad(0, 1, true);
        x.addRoad(1, 2, true);
        for (int unit = 0; unit < 12; unit++) {
            x.addUnit(unit == 11 ? 1 : 0, unit == 11 ? 1 : 0, 9);
        }
        for (int unit = 0; unit < 11; unit++) {
            x.order(unit, 1);
        }
        // Ninety-nine against four, as unit 11 has no supply.
        Script.go("eleven against one", x, "play 0 = 0", "strength 11 = 7", "force 0 = 99", "townOf 10 = 1",
                "order 10 0 = -1", "order 11 2 = -1", "play 0 = 0", "townOf 10 = 1", "townOf 11 = 1", "strength 11 = 5",
                "play 0 = 0", "reported 0 11 = 1", "reported 1 10 = 1", "rule 0 2 = 12", "townOf 10 = 0", "strength 11 = 9");
    }

    // "a strength from 1 to 9; it is lost when its strength is 0" ("strength: 1 to 9")

    private static void strengthIs1To9() {
        for (int strength = 1; strength <= 9; strength++) {
            Script.run("strength " + strength, "addUnit 1 3 " + strength + " = 0", "strength 0 = " + strength,
                    "force 1 = " + strength, "townOf 0 = 3");
        }
        WarTable x = new WarTable();
        refuses(x, "addUnit 0 0 0", Script.ARGUMENT);
        for (int strength : beyond(10)) {
            refuses(x, "addUnit 0 0 " + strength, Script.ARGUMENT);
            refuses(x, "addUnit 1 9 " + strength, Script.ARGUMENT);
        }
        Script.go("after wrong strengths", x, "force 0 = 0", "townOf 0 = !Index", "addUnit 0 0 1 = 0");
    }

    // "Turns are numbered from 0" ("if no such turn was played")

    private static void turnsAreNumberedFrom0() {
        for (int turns = 0; turns <= 20; turns++) {
            WarTable x = played(turns);
            Due.is("played() after " + turns, x.played(), turns);
            for (int turn = 0; turn < turns; turn++) {
                Script.go("turn " + turn + " of " + turns, x, "weather " + turn + " = 0", "townAfter 0 " + turn + " = 0",
                        "rule " + turn + " 1 = 0", "weather " + turn + " = 1", "appeal = " + turn);
            }
            refusesTurns(x, new int[] {-1, turns, turns + 1, 20, 21});
        }
    }

    private static void turnsBeyondAreRefused() {
        refusesTurns(played(0), beyond(0));
        refusesTurns(played(1), beyond(1));
        refusesTurns(played(20), beyond(20));
    }

    private static void refusesTurns(WarTable x, int[] turns) {
        for (int turn : turns) {
            refuses(x, "weather " + turn, Script.INDEX);
            refuses(x, "townAfter 0 " + turn, Script.INDEX);
            refuses(x, "rule " + turn + " 0", Script.INDEX);
            refuses(x, "rulings", "0");
        }
    }

    // "at most 20 are played" ("if 20 turns were played")

    private static void atMost20Turns() {
        for (int weather = 0; weather < 3; weather++) {
            WarTable x = played(19);
            Script.go("the 20th turn", x, "play 3 = !Argument", "play " + weather + " = 0", "played = 20",
                    "weather 19 = " + weather, "play 0 = !State", "play 1 = !State", "play 2 = !State",
                    "play 3 = !Argument", "play -1 = !Argument", "played = 20", "weather 20 = !Index",
                    "rule 19 1", "play 0 = !State", "appeal = 19", "play 0 = !State", "played = 20");
        }
    }

    // "if a turn was played" (addRoad, setDepot, addUnit)

    private static void turnEndsAllThatIsAheadOfTurn0() {
        Script.run("ahead of turn 0, whatever was asked or refused", "order 0 1 = !Index", "play 3 = !Argument",
                "rule 0 0 = !Index", "appeal = !State", "played = 0", "addRoad 0 1 1 = 1", "setDepot 0 1 = 0",
                "addUnit 0 1 1 = 0", "order 0 0 = -1", "addRoad 1 2 1 = 2", "setDepot 1 1 = 9", "addUnit 0 1 1 = 1");
        for (int turns = 1; turns <= 20; turns += 19) {
            WarTable x = played(turns);
            Script.go("after " + turns + " turns", x, "addRoad 0 1 1 = !State", "addRoad 0 0 1 = !Argument",
                    "setDepot 0 0 = !State", "setDepot 1 3 = !State", "setDepot 0 10 = !Argument",
                    "setDepot 2 0 = !Argument", "addUnit 0 0 1 = !State", "addUnit 1 5 1 = !State",
                    "addUnit 2 0 1 = !Argument", "addUnit 0 10 1 = !Argument", "addUnit 0 0 10 = !Argument",
                    "addUnit 0 0 0 = !Argument", "rule 0 2 = 0", "addRoad 0 1 1 = !State", "appeal = 0",
                    "addUnit 0 0 1 = !State", "setDepot 0 3 = !State");
        }
    }

    // "Each turn has a weather, 0 (dry) at first; 1 is rain [...] 2 is snow" ("weather: 0 to 2", "Returns 0 to 2.")

    private static void weatherIs0To2() {
        for (int weather = 0; weather < 3; weather++) {
            for (int ruled = 0; ruled < 3; ruled++) {
                Script.run("weather " + weather + ", then " + ruled, "addUnit 0 0 1", "supply 0 " + weather + " = 0",
                        "play " + weather + " = 0", "weather 0 = " + weather, "rule 0 " + ruled + " = 0",
                        "weather 0 = " + ruled, "appeal = 0", "weather 0 = " + weather);
            }
        }
    }

    private static void weathersBeyondAreRefused() {
        for (int weather : beyond(3)) {
            WarTable x = played(1);
            Script.go("a weather " + weather, x, "play " + weather + " = !Argument", "played = 1",
                    "rule 0 " + weather + " = !Argument", "rulings = 0", "weather 0 = 0",
                    "supply 0 " + weather + " = !Argument", "play 2 = 0", "rule 1 " + weather + " = !Argument",
                    "weather 1 = 2", "appeal = !State");
        }
    }

    // "town: 0 to 9, or -1 for no order" ("Returns the order before, -1 for none.")

    private static void ordersAreTowns0To9OrNone() {
        WarTable x = new WarTable();
        x.addUnit(0, 4, 1);
        x.addUnit(0, 4, 1);
        int before = -1;
        int[] towns = {-1, 0, 1, 2, 3, 4, 5, 6, 7, 8, 9, 9, 0, -1, -1, 9, -1};
        for (int town : towns) {
            Script.go("orders", x, "order 0 -2 = !Argument", "order 0 10 = !Argument", "order 0 " + town + " = " + before,
                    "order 1 -1 = -1");
            before = town;
        }
    }

    // "An object is used for at most 512 calls after it has been made"

    private static void anObjectIsUsedFor512Calls() {
        // What is due from the last of the 512 calls: the unit goes in dry weather, and stays in snow.
        String[] last = {
            "rulings = 507", "rule 0 0 = 1", "rule 0 2 = 0", "appeal = 0", "played = 1", "townOf 0 = 0", "strength 0 = 7",
            "supply 0 0 = 0", "townAfter 0 0 = 0", "force 0 = 7", "weather 0 = 2", "order 0 1 = -1", "play 0 = 0",
            "reported 1 0 = -1", "addRoad 0 2 1 = !State", "appeal = 0",
        };
        for (String row : last) {
            WarTable x = Script.run("the first calls", "addRoad 0 1 1 = 1", "addUnit 0 0 7 = 0", "order 0 1 = -1",
                    "play 0 = 0");
            for (int call = 4; call < Script.MOST_CALLS - 1; call++) {
                Due.is("call " + call, x.rule(0, call % 2 == 0 ? 2 : 0), 1);
            }
            Script.go("the last call", x, row);
        }
    }
}
