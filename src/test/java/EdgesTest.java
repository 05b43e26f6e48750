/**
 * The edges of a turn and of what is asked after it, sentence by sentence of the document: each bound from
 * both of its sides, and the empty and the full case. Each test is a few runs on new objects.
 */
public final class EdgesTest {

    /** What a unit without supply counts in a fight, by its strength. */
    private static final int[] HALVES = {0, 0, 1, 1, 2, 2, 3, 3, 4, 4};

    public static void main(String[] args) {
        supplyByAtMost4Roads();
        supplyByNoRoads();
        supplyWithTheOtherSideOnTheWay();
        supplyWhereUnitsWereWhenTheTurnBegan();
        supplyByTheFewestRoads();
        supplyByTheWeatherThatIsAskedFor();
        rainClosesRoadsThatAreNotPaved();
        snowClosesAllRoads();
        ordersNeedAnOrder();
        ordersNeedSupplyAtTheEnds();
        ordersNeedARoad();
        unitsAgainstOneAnotherOverTheSameRoad();
        unitsAgainstOneAnotherStayForTheFight();
        unitsOverOtherRoadsPass();
        lostUnitsStandInNobodysWay();
        noFightOfOneSideAlone();
        fightsOfTwoWithSupply();
        fightsOfOneWithoutSupply();
        halfOfEachAndNotOfTheSum();
        halfOfTheSumThatWon();
        lostAtStrength0();
        nobodyIsLostOrEverybody();
        sightOfOneRoadAndNotOfTwo();
        toldWhenTheTurnButOneIsOver();
        toldOfTheLastTurns();
        toldOfNobody();
        toldOfALostUnit();
        Due.end();
    }

    private static String[] joined(String[] rows, String... more) {
        String[] all = new String[rows.length + more.length];
        System.arraycopy(rows, 0, all, 0, rows.length);
        System.arraycopy(more, 0, all, rows.length, more.length);
        return all;
    }

    /** Roads from depot 0 up to town 5, and from depot 9 down to town 5: 0-1-2-3-4-5 and 9-8-7-6-5. */
    private static String[] ways(String... more) {
        return joined(new String[] {
            "addRoad 0 1 1", "addRoad 1 2 1", "addRoad 2 3 1", "addRoad 3 4 1", "addRoad 4 5 1",
            "addRoad 9 8 1", "addRoad 8 7 1", "addRoad 7 6 1", "addRoad 6 5 1",
        }, more);
    }

    // "Supply. A unit is supplied if the depot of its side can be reached [...] by at most 4 roads"
    // ("Returns the number of roads, 0 to 4, or -1 if it would not be, or is lost.")

    private static void supplyByAtMost4Roads() {
        for (int roads = 0; roads <= 5; roads++) {
            int due = roads <= 4 ? roads : -1;
            Script.run("side 0 at " + roads + " roads", ways("addUnit 0 " + roads + " 1", "supply 0 0 = " + due,
                    "supply 0 1 = " + due));
            Script.run("side 1 at " + roads + " roads", ways("addUnit 1 " + (9 - roads) + " 1", "supply 0 0 = " + due,
                    "supply 0 1 = " + due));
        }
        // A unit with 4 roads goes to where it has 5, and then no further.
        Script.run("side 0 goes away", ways("addUnit 0 4 1", "order 0 5", "play 0 = 0", "townOf 0 = 5", "supply 0 0 = -1",
                "order 0 4", "play 0 = 0", "townOf 0 = 5", "order 0 6", "play 0 = 0", "townOf 0 = 5"));
        Script.run("side 1 goes away", ways("addUnit 1 5 1", "order 0 4", "play 0 = 0", "townOf 0 = 4", "supply 0 0 = -1",
                "order 0 5", "play 0 = 0", "townOf 0 = 4", "order 0 3", "play 0 = 0", "townOf 0 = 4"));
    }

    private static void supplyByNoRoads() {
        for (int weather = 0; weather < 3; weather++) {
            Script.run("no roads at all", "addUnit 0 0 1", "addUnit 1 9 1", "addUnit 0 1 1", "supply 0 " + weather + " = 0",
                    "supply 1 " + weather + " = 0", "supply 2 " + weather + " = -1");
        }
    }

    // "where no town on the way, the depot and its own town included, has a unit of the other side"

    private static void supplyWithTheOtherSideOnTheWay() {
        for (int town = 0; town < 10; town++) {
            if (town != 4) {
                Script.run("the other side in town " + town, ways("addUnit 0 4 1", "addUnit 1 " + town + " 1",
                        "supply 0 0 = " + (town < 4 ? -1 : 4)));
                Script.run("the own side in town " + town, ways("addUnit 0 4 1", "addUnit 0 " + town + " 1",
                        "supply 0 0 = 4"));
            }
            if (town != 5) {
                Script.run("side 1 with the other side in town " + town, ways("addUnit 1 5 1", "addUnit 0 " + town + " 1",
                        "supply 0 0 = " + (town > 5 ? -1 : 4)));
            }
        }
        // In its own town: both came there, and neither is supplied now, though one is at its very depot.
        Script.run("both in one town", ways("setDepot 1 1", "addUnit 0 0 9", "addUnit 1 1 9", "order 0 1", "play 0 = 0",
                "townOf 0 = 1", "townOf 1 = 1", "supply 0 0 = -1", "supply 1 0 = -1", "order 0 0", "order 1 2",
                "play 0 = 0", "townOf 0 = 1", "townOf 1 = 1"));
        // A unit that is lost is in no way.
        Script.run("the other side is lost", ways("addUnit 0 0 9", "addUnit 0 2 1", "addUnit 1 1 2", "supply 1 0 = -1",
                "order 0 1", "play 0 = 1", "supply 1 0 = 2", "supply 2 0 = -1"));
    }

    // "the units are where they were when the turn began"

    private static void supplyWhereUnitsWereWhenTheTurnBegan() {
        Script.run("the other side leaves the way in this turn", ways("setDepot 1 1", "addRoad 1 9 1", "addUnit 0 2 1",
                "addUnit 1 1 1", "order 0 3", "order 1 9", "play 0 = 0", "townOf 0 = 2", "townOf 1 = 9", "order 0 3",
                "play 0 = 0", "townOf 0 = 3"));
        Script.run("the other side enters the way in this turn", ways("addRoad 1 9 1", "addUnit 0 2 1", "addUnit 1 9 1",
                "order 0 3", "order 1 1", "play 0 = 0", "townOf 0 = 3", "townOf 1 = 1", "supply 0 0 = -1", "order 0 4",
                "play 0 = 0", "townOf 0 = 3"));
        // Unit 1 is cut off by unit 0 in this turn, and counts in full in it still: 5 against 6.
        Script.run("cut off in the fight", ways("setDepot 1 3", "addUnit 0 1 5", "addUnit 1 2 6", "order 0 2",
                "supply 1 0 = 1", "play 0 = 0", "strength 0 = 3", "strength 1 = 5", "supply 0 0 = -1", "supply 1 0 = -1",
                "play 0 = 0", "strength 0 = 1", "strength 1 = 5"));
    }

    // "Ways with the fewest roads count."

    private static void supplyByTheFewestRoads() {
        String[] map = {
            "addRoad 0 5 1", "addRoad 0 1 1", "addRoad 1 5 1", "addRoad 0 2 1", "addRoad 2 3 1", "addRoad 3 4 1",
            "addRoad 4 5 1", "addRoad 3 6 0", "addRoad 6 5 0",
        };
        Script.run("the road", joined(map, "addUnit 0 5 1", "supply 0 0 = 1"));
        String[] longer = {
            "addRoad 0 1 1", "addRoad 1 5 1", "addRoad 0 2 1", "addRoad 2 3 1", "addRoad 3 4 1", "addRoad 4 5 1",
        };
        Script.run("two roads or four", joined(longer, "addUnit 0 5 1", "supply 0 0 = 2"));
        Script.run("four, as the shorter way is not safe", joined(longer, "addUnit 0 5 1", "addUnit 1 1 1",
                "supply 0 0 = 4", "order 0 4", "play 0 = 0", "townOf 0 = 4"));
        Script.run("neither is safe", joined(longer, "addUnit 0 5 1", "addUnit 1 1 1", "addUnit 1 3 1", "supply 0 0 = -1"));
        Script.run("five, as the shorter way is not safe", "addRoad 0 1 1", "addRoad 1 5 1", "addRoad 0 2 1",
                "addRoad 2 3 1", "addRoad 3 4 1", "addRoad 4 6 1", "addRoad 6 5 1", "addUnit 0 5 1", "supply 0 0 = 2",
                "addUnit 1 1 1", "supply 0 0 = -1", "order 0 6", "play 0 = 0", "townOf 0 = 5");
        Script.run("four in rain, as the shorter way is not paved", "addRoad 0 5 0", "addRoad 0 2 1", "addRoad 2 3 1",
                "addRoad 3 4 1", "addRoad 4 5 1", "addUnit 0 5 1", "supply 0 0 = 1", "supply 0 1 = 4", "supply 0 2 = -1");
    }

    // supply: "if a turn began now" ("weather: 0 to 2")

    private static void supplyByTheWeatherThatIsAskedFor() {
        for (int weather = 0; weather < 3; weather++) {
            Script.run("whatever the last weather was", "addRoad 0 1 1", "addRoad 1 2 0", "addUnit 0 0 1", "addUnit 0 1 1",
                    "addUnit 0 2 1", "order 0 1", "play " + weather, "order 0 0", "supply 1 0 = 1", "supply 1 1 = 1",
                    "supply 1 2 = -1", "supply 2 0 = 2", "supply 2 1 = -1", "supply 2 2 = -1",
                    "supply 0 0 = " + (weather < 2 ? 1 : 0));
        }
    }

    // "1 is rain, in which roads that are not paved are closed, 2 is snow, in which all roads are closed"

    private static void rainClosesRoadsThatAreNotPaved() {
        Script.run("rain", "addRoad 0 1 1", "addRoad 0 2 0", "addRoad 9 8 1", "addRoad 9 7 0", "addUnit 0 0 1", "addUnit 0 0 1",
                "addUnit 1 9 1", "addUnit 1 9 1", "order 0 1", "order 1 2", "order 2 8", "order 3 7", "play 1 = 0",
                "townOf 0 = 1", "townOf 1 = 0", "townOf 2 = 8", "townOf 3 = 9", "rule 0 0 = 2", "townOf 1 = 2", "townOf 3 = 7");
    }

    private static void snowClosesAllRoads() {
        Script.run("snow", "addRoad 0 1 1", "addRoad 0 2 0", "addUnit 0 0 1", "addUnit 0 0 1", "order 0 1", "order 1 2",
                "play 2 = 0", "townOf 0 = 0", "townOf 1 = 0", "rule 0 1 = 1", "townOf 0 = 1", "townOf 1 = 0");
    }

    // "Orders. Each unit that has an order for this turn [...] Others stay."

    private static void ordersNeedAnOrder() {
        Script.run("no order, an order in place of another, and none in place of one", ways("addUnit 0 1 1",
                "addUnit 0 1 1", "addUnit 0 1 1", "addUnit 0 1 1", "order 1 0 = -1", "order 1 2 = 0", "order 2 2 = -1",
                "order 2 -1 = 2", "order 3 1 = -1", "play 0 = 0", "townOf 0 = 1", "townOf 1 = 2", "townOf 2 = 1",
                "townOf 3 = 1", "order 0 -1 = -1", "order 1 -1 = -1", "order 2 -1 = -1", "order 3 -1 = -1"));
        Script.run("an order is for one turn", ways("addUnit 0 0 1", "order 0 1", "play 2 = 0", "townOf 0 = 0",
                "play 0 = 0", "townOf 0 = 0", "order 0 1 = -1", "play 0 = 0", "townOf 0 = 1", "play 0 = 0",
                "townOf 0 = 1"));
    }

    // "is supplied"

    private static void ordersNeedSupplyAtTheEnds() {
        for (int town = 1; town <= 5; town++) {
            Script.run("an order to go back from " + town, ways("addUnit 0 " + town + " 1", "order 0 " + (town - 1),
                    "play 0 = 0", "townOf 0 = " + (town <= 4 ? town - 1 : 5)));
        }
        Script.run("out of the depot's own town", ways("addUnit 0 0 1", "order 0 1", "play 1 = 0", "townOf 0 = 1"));
    }

    // "and for which the road from its town to the ordered one is open"

    private static void ordersNeedARoad() {
        for (int town = 0; town < 10; town++) {
            boolean isJoined = town == 0 || town == 2;
            Script.run("from town 1 to town " + town, ways("addUnit 0 1 1", "order 0 " + town, "play 0 = 0",
                    "townOf 0 = " + (isJoined ? town : 1)));
        }
    }

    // "Two units of different sides that would go over the same road against one another both stay."

    private static void unitsAgainstOneAnotherOverTheSameRoad() {
        String[] two = ways("setDepot 1 2", "addUnit 0 1 9", "addUnit 1 2 3");
        Script.run("against one another", joined(two, "order 0 2", "order 1 1", "play 0 = 0", "townOf 0 = 1", "townOf 1 = 2",
                "strength 0 = 9", "strength 1 = 3"));
        Script.run("one after the other", joined(two, "order 0 2", "order 1 3", "play 0 = 0", "townOf 0 = 2",
                "townOf 1 = 3", "strength 1 = 3"));
        Script.run("one stays", joined(two, "order 0 2", "play 0 = 0", "townOf 0 = 2", "townOf 1 = 2", "strength 0 = 9",
                "strength 1 = 1"));
        Script.run("one of them is not supplied and would not go", ways("addUnit 0 1 9", "addUnit 1 2 3", "order 0 2",
                "order 1 1", "play 0 = 0", "townOf 0 = 2", "townOf 1 = 2", "strength 0 = 9", "strength 1 = 1"));
        Script.run("of the same side both go", ways("addUnit 0 1 9", "addUnit 0 2 3", "order 0 2", "order 1 1", "play 0 = 0",
                "townOf 0 = 2", "townOf 1 = 1"));
        Script.run("of side 1 both go", ways("addUnit 1 8 9", "addUnit 1 7 3", "order 0 7", "order 1 8", "play 0 = 0",
                "townOf 0 = 7", "townOf 1 = 8"));
        Script.run("one against many", ways("setDepot 1 2", "addUnit 0 1 1", "addUnit 1 2 9", "addUnit 1 2 9", "addUnit 1 2 9",
                "order 0 2", "order 1 1", "order 2 1", "order 3 3", "play 0 = 0", "townOf 0 = 1", "townOf 1 = 2",
                "townOf 2 = 2", "townOf 3 = 3", "force 0 = 1"));
    }

    /** A unit that stays for one that came against it fights with a third that comes to its town. */
    private static void unitsAgainstOneAnotherStayForTheFight() {
        Script.run("a third comes", ways("setDepot 1 2", "addRoad 2 8 1", "addRoad 8 1 1", "addUnit 0 1 4", "addUnit 1 2 4",
                "addUnit 1 8 3", "order 0 2", "order 1 1", "order 2 1", "play 0 = 0", "townOf 0 = 1", "townOf 1 = 2",
                "townOf 2 = 1", "strength 0 = 3", "strength 1 = 4", "strength 2 = 1"));
    }

    private static void unitsOverOtherRoadsPass() {
        Script.run("round a triangle", "setDepot 1 1", "addRoad 0 1 1", "addRoad 1 2 1", "addRoad 2 0 1", "addUnit 0 0 5",
                "addUnit 1 1 5", "addUnit 0 2 5", "order 0 1", "order 1 2", "order 2 0", "play 0 = 0", "townOf 0 = 1",
                "townOf 1 = 2", "townOf 2 = 0", "force 0 = 10", "force 1 = 5");
    }

    // "A unit that is lost is in no town any more." ("Returns the town, -1 if it is lost.")

    private static void lostUnitsStandInNobodysWay() {
        WarTable x = Script.run("a lost unit", ways("setDepot 1 2", "addUnit 0 0 9", "addUnit 1 1 2", "addUnit 1 2 4",
                "order 0 1", "play 0 = 1", "townOf 1 = -1", "strength 1 = 0", "townAfter 1 0 = -1", "supply 1 0 = -1",
                "supply 1 2 = -1", "force 1 = 4", "supply 0 0 = 1"));
        // Its order against unit 0 counts for nothing, nor does it fight, nor is it lost again.
        Script.go("a lost unit", x, "order 1 1 = -1", "order 1 0 = 1", "order 0 0", "play 0 = 0", "townOf 0 = 0",
                "townOf 1 = -1", "order 0 1", "order 1 0 = -1", "play 0 = 0", "townOf 0 = 1", "townOf 1 = -1",
                "strength 0 = 9", "force 1 = 4", "townAfter 1 1 = -1", "townAfter 1 2 = -1", "force 0 = 9");
    }

    // "Fights. In each town [...] in which there are units of both sides then"

    private static void noFightOfOneSideAlone() {
        Script.run("no units at all", ways("play 0 = 0", "play 1 = 0", "force 0 = 0", "force 1 = 0"));
        Script.run("one side alone", ways("addUnit 0 0 1", "addUnit 0 0 1", "addUnit 0 5 1", "addUnit 0 5 1", "play 0 = 0",
                "play 0 = 0", "force 0 = 4", "force 1 = 0"));
        Script.run("next to one another", ways("addUnit 0 0 1", "addUnit 1 1 1", "play 0 = 0", "strength 0 = 1",
                "strength 1 = 1"));
        Script.run("in the first and the last town", "setDepot 0 8", "setDepot 1 1", "addRoad 0 1 1", "addRoad 8 9 1",
                "addUnit 0 0 3", "addUnit 1 1 3", "addUnit 0 8 3", "addUnit 1 9 3", "order 1 0", "order 2 9", "play 0 = 0",
                "strength 0 = 1", "strength 1 = 3", "strength 2 = 3", "strength 3 = 1");
    }

    // "The side with the greater sum wins; with the same sum nobody does. Each unit of a side that has lost loses
    // 2 strength, each of one that has won 1 if the other sum was more than half of its own; if nobody wins, each
    // unit loses 1. (A strength is at least 0.)"

    private static void fightsOfTwoWithSupply() {
        for (int one = 1; one <= 9; one++) {
            for (int other = 1; other <= 9; other++) {
                fight(one, other, one, other, true);
            }
        }
    }

    // "those of a unit that is not supplied counting half, rounded down"

    private static void fightsOfOneWithoutSupply() {
        for (int one = 1; one <= 9; one++) {
            for (int other = 1; other <= 9; other++) {
                fight(one, other, one, HALVES[other], false);
            }
        }
    }

    /** A unit of side 0 comes from its depot to one of side 1, which stands at its own depot or has no supply. */
    private static void fight(int one, int other, int sum, int otherSum, boolean isSupplied) {
        int left = Math.max(0, one - loss(sum, otherSum));
        int otherLeft = Math.max(0, other - loss(otherSum, sum));
        int lost = (left == 0 ? 1 : 0) + (otherLeft == 0 ? 1 : 0);
        Script.run(one + " against " + other + (isSupplied ? "" : " without supply"), "addRoad 0 1 1",
                "setDepot 1 " + (isSupplied ? 1 : 8), "addUnit 0 0 " + one, "addUnit 1 1 " + other, "order 0 1",
                "play 0 = " + lost, "strength 0 = " + left, "strength 1 = " + otherLeft, "force 0 = " + left,
                "force 1 = " + otherLeft, "townOf 0 = " + (left == 0 ? -1 : 1), "townOf 1 = " + (otherLeft == 0 ? -1 : 1));
    }

    private static int loss(int own, int other) {
        if (own == other) {
            return 1;
        }
        // Half of an odd sum is not a whole number, so that 3 is more than half of 5, and 2 is not.
        return own < other ? 2 : other > own / 2.0 ? 1 : 0;
    }

    private static void halfOfEachAndNotOfTheSum() {
        String[] two = {"addRoad 0 1 1", "addUnit 1 1 3", "addUnit 1 1 5", "addUnit 1 1 1"};
        // 3, 5 and 1 without supply count 1 + 2 + 0.
        Script.run("3 against 3", joined(two, "addUnit 0 0 3", "order 3 1", "play 0 = 1", "strength 0 = 2", "strength 1 = 4",
                "strength 2 = 0", "strength 3 = 2"));
        Script.run("4 against 3", joined(two, "addUnit 0 0 4", "order 3 1", "play 0 = 1", "strength 0 = 1", "strength 1 = 3",
                "strength 2 = 0", "strength 3 = 3"));
        Script.run("2 against 3", joined(two, "addUnit 0 0 2", "order 3 1", "play 0 = 2", "strength 0 = 2", "strength 1 = 4",
                "strength 2 = 0", "strength 3 = 0"));
        Script.run("6 against 3", joined(two, "addUnit 0 0 6", "order 3 1", "play 0 = 1", "strength 0 = 1", "strength 1 = 3",
                "strength 2 = 0", "strength 3 = 6"));
        // Two sums of 0: nobody wins, and each unit loses 1. They come to meet with 2, and are both cut off then.
        Script.run("0 against 0", "addRoad 0 1 1", "setDepot 1 1", "addUnit 0 0 2", "addUnit 1 1 2", "order 0 1",
                "play 0 = 0", "strength 0 = 1", "strength 1 = 1", "supply 0 0 = -1", "supply 1 0 = -1", "play 0 = 2",
                "townOf 0 = -1", "townOf 1 = -1", "force 0 = 0", "force 1 = 0");
        Script.run("1 against 0", "addRoad 0 1 1", "addUnit 0 0 1", "addUnit 1 1 1", "order 0 1", "play 0 = 1", "strength 0 = 1",
                "strength 1 = 0");
        // One of a side with supply and one without: unit 0 comes from the depot, unit 1 stands in town 1 cut off.
        Script.run("one with and one without", ways("setDepot 1 2", "addRoad 9 1 1", "addUnit 1 9 7", "addUnit 0 1 7",
                "addUnit 1 2 5", "order 0 1", "order 2 1", "play 0 = 0", "strength 1 = 6", "strength 2 = 3",
                "strength 0 = 7"));
    }

    // "1 if the other sum was more than half of its own"

    private static void halfOfTheSumThatWon() {
        String[] side0 = {"addRoad 0 1 1", "setDepot 1 1", "addUnit 0 0 9", "addUnit 0 0 9", "addUnit 0 0 1", "order 0 1",
            "order 1 1", "order 2 1"};
        // Nineteen against nine, ten, and nineteen.
        Script.run("19 against 9", joined(side0, "addUnit 1 1 9", "play 0 = 0", "strength 0 = 9", "strength 1 = 9",
                "strength 2 = 1", "strength 3 = 7"));
        Script.run("19 against 10", joined(side0, "addUnit 1 1 9", "addUnit 1 1 1", "play 0 = 2", "strength 0 = 8",
                "strength 1 = 8", "strength 2 = 0", "strength 3 = 7", "strength 4 = 0"));
        Script.run("19 against 18", joined(side0, "addUnit 1 1 9", "addUnit 1 1 9", "play 0 = 1", "strength 0 = 8",
                "strength 2 = 0", "strength 3 = 7", "strength 4 = 7"));
        Script.run("19 against 19", joined(side0, "addUnit 1 1 9", "addUnit 1 1 9", "addUnit 1 1 1", "play 0 = 2",
                "strength 0 = 8", "strength 2 = 0", "strength 3 = 8", "strength 4 = 8", "strength 5 = 0"));
        Script.run("19 against 20", joined(side0, "addUnit 1 1 9", "addUnit 1 1 9", "addUnit 1 1 2", "play 0 = 1",
                "strength 0 = 7", "strength 1 = 7", "strength 2 = 0", "strength 3 = 8", "strength 4 = 8", "strength 5 = 1"));
        String[] even = {"addRoad 0 1 1", "setDepot 1 1", "addUnit 0 0 9", "addUnit 0 0 9", "order 0 1", "order 1 1"};
        Script.run("18 against 9", joined(even, "addUnit 1 1 9", "play 0 = 0", "strength 0 = 9", "strength 1 = 9",
                "strength 2 = 7"));
        Script.run("18 against 10", joined(even, "addUnit 1 1 9", "addUnit 1 1 1", "play 0 = 1", "strength 0 = 8",
                "strength 1 = 8", "strength 2 = 7", "strength 3 = 0"));
    }

    // "it is lost when its strength is 0", "(A strength is at least 0.)"

    private static void lostAtStrength0() {
        for (int strength = 1; strength <= 9; strength++) {
            int left = Math.max(0, strength - 2);
            Script.run("a side that loses, with strength " + strength, "addRoad 0 1 1", "addUnit 0 0 9", "addUnit 0 0 9",
                    "addUnit 1 1 " + strength, "order 0 1", "order 1 1", "play 0 = " + (left == 0 ? 1 : 0),
                    "strength 2 = " + left, "townOf 2 = " + (left == 0 ? -1 : 1), "townAfter 2 0 = " + (left == 0 ? -1 : 1),
                    "force 0 = 18", "force 1 = " + left);
        }
    }

    // play: "Returns how many units are lost in it."

    private static void nobodyIsLostOrEverybody() {
        String[] rows = new String[32];
        rows[0] = "addRoad 0 1 1";
        rows[1] = "setDepot 1 1";
        for (int unit = 0; unit < 12; unit++) {
            rows[2 + unit] = "addUnit " + unit % 2 + " " + unit % 2 + " 1 = " + unit;
            rows[14 + unit] = "order " + unit + " " + (unit % 2 == 0 ? 1 : -1);
        }
        rows[26] = "play 0 = 12";
        rows[27] = "force 0 = 0";
        rows[28] = "force 1 = 0";
        rows[29] = "townOf 11 = -1";
        rows[30] = "play 0 = 0";
        rows[31] = "played = 2";
        WarTable x = Script.run("all twelve are lost", rows);
        // All twelve come back by a ruling: they are in another town, and have another strength.
        Script.go("all twelve come back", x, "rule 0 2 = 12", "force 0 = 6", "force 1 = 6", "townOf 11 = 1", "appeal = 0",
                "force 0 = 0", "rule 1 2 = 0", "appeal = 1");
    }

    // "Sight. Each side sees [...] those in towns in which it has units itself [...], and in towns next to these by a
    // road, closed or not."

    private static void sightOfOneRoadAndNotOfTwo() {
        for (int weather = 0; weather < 3; weather++) {
            for (int paved = 0; paved < 2; paved++) {
                Script.run("in sight", "addRoad 0 1 " + paved, "addRoad 1 2 " + paved, "addUnit 0 0 1", "addUnit 1 1 1",
                        "addUnit 1 2 1", "addUnit 1 5 1", "play " + weather, "play " + weather, "play " + weather,
                        "reported 0 1 = 1", "reported 0 2 = -1", "reported 0 3 = -1", "reported 1 0 = 0");
            }
        }
        Script.run("in the same town", "addRoad 0 1 1", "addUnit 0 0 9", "addUnit 1 1 9", "order 0 1", "play 0 = 0",
                "play 0 = 0", "play 0 = 0", "reported 0 1 = 1", "reported 1 0 = 1");
    }

    // "What is seen in the turn t is told when the turn t + 2 is over."

    private static void toldWhenTheTurnButOneIsOver() {
        // The unit of side 1 goes to and fro between towns 8 and 7, in sight of town 6 in town 7 alone.
        WarTable x = Script.run("to and fro", ways("addUnit 0 6 1", "addUnit 1 8 1", "reported 0 1 = -1"));
        int due = -1;
        for (int turn = 0; turn < 20; turn++) {
            String to = String.valueOf(turn % 4 == 0 ? 7 : turn % 4 == 1 ? 8 : -1);
            due = turn >= 2 ? 7 : -1;
            Script.go("turn " + turn, x, "order 1 " + to + " = -1", "play 0 = 0", "reported 0 1 = " + due,
                    "townOf 1 = " + (turn % 4 == 0 ? 7 : 8));
        }
        // The unit goes along towns 9, 8, 7, always in sight of a unit that is next to it.
        WarTable y = Script.run("along", ways("addUnit 0 8 9", "addUnit 1 9 9", "addUnit 0 6 9", "addUnit 0 7 9"));
        Script.go("turn 0", y, "play 0 = 0", "reported 0 1 = -1", "reported 1 0 = -1");
        Script.go("turn 1", y, "order 1 8", "play 0 = 0", "reported 0 1 = -1", "reported 1 0 = -1");
        Script.go("turn 2", y, "play 0 = 0", "reported 0 1 = 9", "reported 1 0 = 8", "reported 1 2 = -1", "reported 1 3 = -1");
        Script.go("turn 3", y, "play 0 = 0", "reported 0 1 = 8", "reported 1 0 = 8", "reported 1 2 = -1", "reported 1 3 = 7");
    }

    /** Turn 19 is the last, so that turn 17 is the last of which is told. */
    private static void toldOfTheLastTurns() {
        for (int seen = 0; seen < 20; seen++) {
            WarTable x = Script.run("seen in turn " + seen + " alone", "addRoad 0 1 1", "addRoad 8 9 1", "addRoad 1 8 1",
                    "addUnit 0 0 9", "addUnit 1 9 9");
            for (int turn = 0; turn < 20; turn++) {
                String from = turn == seen ? "1" : turn == seen + 1 ? "0" : "-1";
                String due = turn >= seen + 2 ? "8" : "-1";
                // Only when unit 0 is in town 1, and unit 1 in town 8, one sees the other.
                String to = turn == seen ? "8" : turn == seen + 1 ? "9" : "-1";
                Script.go("turn " + turn, x, "order 0 " + from, "order 1 " + to, "play 0 = 0", "reported 0 1 = " + due,
                        "reported 1 0 = " + (turn >= seen + 2 ? "1" : "-1"));
            }
            Script.go("at the end", x, "reported 0 1 = " + (seen <= 17 ? 8 : -1));
        }
    }

    // reported: "-1 if none of these reports tells of it"

    private static void toldOfNobody() {
        Script.run("no units", "reported 0 0 = !Index", "reported 1 0 = !Index", "play 0", "play 0", "play 0",
                "reported 0 0 = !Index");
        Script.run("nobody sees", "addUnit 0 0 1", "addUnit 1 1 1", "play 0", "play 0", "play 0", "reported 0 1 = -1",
                "reported 1 0 = -1", "reported 0 0 = !Index", "reported 1 1 = !Index");
        Script.run("a side without units", "addRoad 0 1 1", "addUnit 0 0 1", "play 0", "play 0", "play 0",
                "reported 1 0 = -1");
    }

    // "of units of the other side that are not lost, those in towns in which it has units itself that are not lost"

    private static void toldOfALostUnit() {
        Script.run("lost in turn 0", "addRoad 0 1 1", "addUnit 0 0 9", "addUnit 1 1 2", "order 0 1", "play 0 = 1", "play 0 = 0",
                "play 0 = 0", "reported 0 1 = -1", "reported 1 0 = -1", "play 0 = 0", "reported 0 1 = -1",
                "reported 1 0 = -1");
        Script.run("lost in turn 1", "addRoad 0 1 1", "addUnit 0 0 9", "addUnit 1 1 3", "order 0 1", "play 0 = 0", "play 0 = 1",
                "play 0 = 0", "reported 0 1 = 1", "reported 1 0 = 1", "order 0 0", "play 0 = 0", "play 0 = 0", "play 0 = 0",
                "reported 0 1 = 1", "reported 1 0 = 1", "townOf 1 = -1");
    }
}
