/**
 * The edges of rulings and appeals, sentence by sentence of the document: the first, the last and the only turn,
 * no ruling and many, and what a ruling leaves as it is.
 */
public final class RulingsTest {

    public static void main(String[] args) {
        noTurnsAndNoRulings();
        firstAndLastTurn();
        weatherThatStays();
        thisTurnAndAllLaterOnes();
        earlierTurnsStay();
        theOrdersThatWereGivenThen();
        ordersOfLostUnits();
        ordersForTheNextTurn();
        reportsAreAnew();
        countsUnitsAsTheyAreNow();
        countsEachUnitOnce();
        appealTakesTheLastOneBack();
        appealGivesTheWeatherAheadOfTheRuling();
        appealPlaysLaterTurnsAgain();
        refusedRulingsAreNone();
        rulingAndAppealAfterEachTurn();
        manyRulings();
        Due.end();
    }

    /** Roads 0-1-2-3-4-5 and a unit of side 0 that goes along them, a road in each of the turns. */
    private static WarTable marched(int turns) {
        WarTable x = Script.run("a march", "addRoad 0 1 1", "addRoad 1 2 1", "addRoad 2 3 1", "addRoad 3 4 1", "addRoad 4 5 1",
                "addUnit 0 0 5");
        for (int turn = 0; turn < turns; turn++) {
            Script.go("a march", x, "order 0 " + (turn + 1), "play 0 = 0", "townOf 0 = " + (turn + 1));
        }
        return x;
    }

    // "if no such turn was played", "if there is none"

    private static void noTurnsAndNoRulings() {
        Script.run("a new object", "rule 0 0 = !Index", "rule -1 0 = !Index", "rule 0 3 = !Index", "appeal = !State",
                "rulings = 0", "play 0 = 0", "appeal = !State", "rule 1 0 = !Index", "rule -1 3 = !Index",
                "rule 0 3 = !Argument", "rule 0 -1 = !Argument", "appeal = !State", "rulings = 0");
    }

    // "The umpire changes the weather of a turn that was played"

    private static void firstAndLastTurn() {
        Script.go("the only turn", marched(1), "rule 1 2 = !Index", "rule 0 2 = 1", "townOf 0 = 0", "weather 0 = 2",
                "appeal = 0", "townOf 0 = 1", "weather 0 = 0");
        Script.go("the last of five turns", marched(5), "rule 5 2 = !Index", "rule 4 2 = 1", "townOf 0 = 4",
                "weather 4 = 2", "appeal = 4", "townOf 0 = 5", "weather 4 = 0");
        Script.go("the first of five turns", marched(5), "rule -1 2 = !Index", "rule 0 2 = 1", "townOf 0 = 0",
                "weather 0 = 2", "appeal = 0", "townOf 0 = 5", "weather 0 = 0");
        WarTable x = marched(4);
        for (int turn = 4; turn < 19; turn++) {
            Script.go("turn " + turn, x, "play 0 = 0");
        }
        Script.go("the last of all turns", x, "order 0 5", "play 0 = 0", "townOf 0 = 5", "rule 20 2 = !Index",
                "rule 19 2 = 1", "townOf 0 = 4", "rule 0 1 = 0", "rule 0 2 = 1", "townOf 0 = 0", "appeal = 0", "appeal = 0",
                "appeal = 19", "townOf 0 = 5", "appeal = !State");
    }

    // "or rules that it stays"

    private static void weatherThatStays() {
        for (int weather = 0; weather < 3; weather++) {
            Script.run("weather " + weather + " stays", "addUnit 0 0 1", "play " + weather, "rulings = 0",
                    "rule 0 " + weather + " = 0", "rulings = 1", "weather 0 = " + weather, "rule 0 " + weather + " = 0",
                    "rulings = 2", "appeal = 0", "rulings = 1", "weather 0 = " + weather, "appeal = 0", "rulings = 0",
                    "weather 0 = " + weather, "appeal = !State");
        }
    }

    // "then this turn and all later ones are played again, with the units as they were when it began"

    private static void thisTurnAndAllLaterOnes() {
        for (int turn = 0; turn < 5; turn++) {
            WarTable x = marched(5);
            Script.go("snow in turn " + turn, x, "rule " + turn + " 2 = 1", "townOf 0 = " + turn, "played = 5");
            for (int after = 0; after < 5; after++) {
                Script.go("snow in turn " + turn, x, "townAfter 0 " + after + " = " + (after < turn ? after + 1 : turn),
                        "weather " + after + " = " + (after == turn ? 2 : 0));
            }
            Script.go("dry again", x, "rule " + turn + " 0 = 1", "townOf 0 = 5", "rulings = 2");
        }
    }

    private static void earlierTurnsStay() {
        // The fight of turn 0 is not played again: strengths are those of when turn 1 began.
        WarTable x = Script.run("a fight in turn 0", "addRoad 0 1 1", "setDepot 1 1", "addUnit 0 0 9", "addUnit 1 1 8",
                "order 0 1", "play 0 = 0", "strength 0 = 8", "strength 1 = 6", "play 0 = 0", "strength 0 = 7", "strength 1 = 4");
        Script.go("a ruling on turn 1", x, "rule 1 2 = 0", "strength 0 = 7", "strength 1 = 4", "rule 1 1 = 0",
                "townAfter 0 0 = 1", "appeal = 1", "appeal = 1", "strength 0 = 7", "strength 1 = 4", "rule 0 2 = 2",
                "strength 0 = 9", "strength 1 = 8", "appeal = 0", "strength 0 = 7", "strength 1 = 4");
    }

    // "and the orders that were given then"

    private static void theOrdersThatWereGivenThen() {
        WarTable x = Script.run("orders in place of others", "addRoad 0 1 1", "addRoad 0 2 1", "addUnit 0 0 1", "addUnit 0 0 1",
                "addUnit 0 0 1", "order 0 1", "order 0 2", "order 1 1", "order 1 -1", "play 2 = 0", "order 0 1", "order 1 1",
                "order 2 1", "play 2 = 0");
        Script.go("dry in turn 0", x, "rule 0 0 = 1", "townOf 0 = 2", "townOf 1 = 0", "townOf 2 = 0");
        // In turn 1, unit 0 would go from town 2 to town 1, which no road joins.
        Script.go("dry in turn 1", x, "rule 1 0 = 2", "townOf 0 = 2", "townOf 1 = 1", "townOf 2 = 1");
        Script.go("snow in turn 0 again", x, "rule 0 2 = 1", "townOf 0 = 1", "townOf 1 = 1", "townOf 2 = 1");
    }

    private static void ordersOfLostUnits() {
        WarTable x = Script.run("a unit that is lost in turn 0", "addRoad 0 1 1", "addRoad 1 2 1", "setDepot 1 1", "addUnit 0 0 9",
                "addUnit 1 1 1", "order 0 1", "play 0 = 1", "order 1 2 = -1", "play 0 = 0", "townOf 1 = -1");
        Script.go("it comes back", x, "rule 0 2 = 2", "townOf 0 = 0", "townOf 1 = 2", "strength 1 = 1", "townAfter 1 0 = 1",
                "supply 1 0 = 1", "appeal = 0", "townOf 1 = -1", "strength 1 = 0", "supply 1 0 = -1");
    }

    // order: "in the next turn"

    private static void ordersForTheNextTurn() {
        Script.go("an order for the next turn", marched(2), "order 0 3 = -1", "rule 1 2 = 1", "townOf 0 = 1", "appeal = 1",
                "townOf 0 = 2", "order 0 1 = 3", "rule 1 1 = 0", "townOf 0 = 2", "play 0 = 0", "townOf 0 = 1", "rule 1 0 = 0",
                "order 0 -1 = -1");
    }

    // "reports are anew, too"

    private static void reportsAreAnew() {
        WarTable x = Script.run("seen in turn 0", "addRoad 0 1 1", "addRoad 1 9 1", "addRoad 9 8 1", "addUnit 0 0 5", "addUnit 1 9 5",
                "order 0 1", "play 0 = 0", "order 0 0", "order 1 8", "play 0 = 0", "play 0 = 0", "reported 0 1 = 9",
                "reported 1 0 = 1");
        Script.go("not seen by a ruling", x, "rule 0 2 = 0", "reported 0 1 = -1", "reported 1 0 = -1", "play 0 = 0",
                "reported 0 1 = -1", "appeal = 0", "reported 0 1 = 9", "reported 1 0 = 1");
        // By this ruling both stay next to one another in turn 1, of which is told after turn 3.
        Script.go("seen later by a ruling", x, "rule 1 2 = 2", "reported 0 1 = 9", "reported 1 0 = 1", "play 0 = 0",
                "reported 0 1 = 9");
        WarTable y = Script.run("seen by a ruling", "addRoad 0 1 1", "addRoad 1 9 1", "addUnit 0 0 5", "addUnit 1 9 5",
                "order 0 1", "play 2 = 0", "play 0 = 0", "reported 0 1 = -1", "rule 0 0 = 1", "reported 0 1 = -1", "play 0 = 0",
                "reported 0 1 = 9", "reported 1 0 = 1", "appeal = 0", "reported 0 1 = -1", "reported 1 0 = -1");
        Script.go("played on", y, "play 0 = 0", "reported 0 1 = -1");
    }

    // rule: "Returns how many units are in another town, or have another strength, by that."

    private static void countsUnitsAsTheyAreNow() {
        WarTable x = Script.run("there and back", "addRoad 0 1 1", "addUnit 0 0 1", "order 0 1", "play 0 = 0", "order 0 0",
                "play 0 = 0", "townOf 0 = 0");
        Script.go("elsewhere after turn 0, but not now", x, "rule 0 2 = 0", "townAfter 0 0 = 0", "townOf 0 = 0",
                "rule 1 2 = 0", "rule 0 0 = 1", "townOf 0 = 1");
        Script.run("no units", "play 0", "rule 0 2 = 0", "rulings = 1");
    }

    private static void countsEachUnitOnce() {
        WarTable x = Script.run("a fight", "addRoad 0 1 1", "setDepot 1 1", "addUnit 0 0 8", "addUnit 1 1 7", "addUnit 1 1 1",
                "addUnit 1 5 1", "addUnit 0 6 1", "order 0 1", "play 0 = 1", "strength 0 = 7", "strength 1 = 6",
                "strength 2 = 0");
        // Another town and another strength, another strength alone, lost or not, and two that are as they were.
        Script.go("no fight", x, "rule 0 2 = 3", "rule 0 2 = 0", "rule 0 1 = 3", "rule 0 0 = 0", "appeal = 0", "appeal = 0",
                "strength 0 = 8", "strength 1 = 7", "strength 2 = 1", "appeal = 0", "strength 0 = 8", "appeal = 0",
                "strength 0 = 7", "rule 0 2 = 3");
        Script.run("strength alone", "addRoad 0 1 0", "addRoad 1 2 1", "addRoad 9 2 1", "addUnit 0 1 6", "addUnit 1 9 9",
                "order 1 2", "play 0 = 0", "order 1 1", "play 0 = 0", "strength 0 = 4", "strength 1 = 8",
                "rule 1 1 = 1", "strength 0 = 4", "strength 1 = 9", "rule 1 0 = 1", "strength 1 = 8");
        Script.run("town alone", "addRoad 0 1 1", "addUnit 0 0 1", "addUnit 0 0 1", "order 0 1", "play 0", "rule 0 2 = 1");
    }

    // "An appeal takes the last ruling back that was not taken back yet" ("Returns the turn of the ruling.")

    private static void appealTakesTheLastOneBack() {
        Script.go("one after the other", marched(5), "rule 2 1 = 0", "rule 4 2 = 1", "rule 0 1 = 0", "rulings = 3",
                "appeal = 0", "rulings = 2", "appeal = 4", "townOf 0 = 5", "rulings = 1", "rule 3 2 = 1", "rulings = 2",
                "appeal = 3", "appeal = 2", "rulings = 0", "appeal = !State", "rulings = 0", "rule 1 2 = 1", "appeal = 1",
                "appeal = !State");
    }

    // "the turn gets the weather that it had ahead of that ruling"

    private static void appealGivesTheWeatherAheadOfTheRuling() {
        for (int first = 0; first < 3; first++) {
            for (int second = 0; second < 3; second++) {
                for (int third = 0; third < 3; third++) {
                    Script.run("one turn", "play " + first, "play 0", "rule 0 " + second, "rule 1 1", "rule 0 " + third,
                            "weather 0 = " + third, "weather 1 = 1", "appeal = 0", "weather 0 = " + second, "weather 1 = 1",
                            "appeal = 1", "weather 0 = " + second, "weather 1 = 0", "appeal = 0", "weather 0 = " + first);
                }
            }
        }
    }

    // "and this turn and all later ones are played again likewise"

    private static void appealPlaysLaterTurnsAgain() {
        WarTable x = marched(1);
        Script.go("turns after the ruling", x, "rule 0 2 = 1", "order 0 2", "play 0 = 0", "order 0 3", "play 0 = 0",
                "townOf 0 = 0", "appeal = 0", "townOf 0 = 3", "townAfter 0 0 = 1", "townAfter 0 1 = 2", "townAfter 0 2 = 3",
                "played = 3");
        Script.go("a ruling ahead of the one that is taken back", marched(3), "rule 0 2 = 1", "rule 2 1 = 0", "appeal = 2",
                "townOf 0 = 0", "weather 0 = 2", "appeal = 0", "townOf 0 = 3");
    }

    // "A method that throws an exception changes nothing."

    private static void refusedRulingsAreNone() {
        Script.go("refused rulings", marched(3), "rule 1 2 = 1", "townOf 0 = 1", "rule 3 0 = !Index", "rule -1 0 = !Index",
                "rule 1 3 = !Argument", "rule 1 -1 = !Argument", "rulings = 1", "weather 1 = 2", "townOf 0 = 1", "appeal = 1",
                "appeal = !State", "appeal = !State", "rulings = 0", "townOf 0 = 3", "rule 0 1 = 0", "rulings = 1");
    }

    private static void rulingAndAppealAfterEachTurn() {
        WarTable x = Script.run("to and fro", "addRoad 0 1 1", "addUnit 0 0 1");
        for (int turn = 0; turn < 20; turn++) {
            int from = turn % 2;
            int to = 1 - from;
            Script.go("turn " + turn, x, "order 0 " + to, "play 0 = 0", "townOf 0 = " + to, "rule " + turn + " 2 = 1",
                    "townOf 0 = " + from, "rulings = 1", "appeal = " + turn, "townOf 0 = " + to, "rulings = 0",
                    "rule " + (turn + 1) + " 2 = !Index");
        }
    }

    // "An object is used for at most 512 calls": no ruling is one too many, whatever its turn.

    private static void manyRulings() {
        WarTable x = marched(5);
        for (int ruling = 0; ruling < 240; ruling++) {
            Script.go("ruling " + ruling, x, "rule " + ruling % 5 + " " + ruling % 3);
        }
        for (int ruling = 239; ruling >= 0; ruling--) {
            Script.go("appeal against " + ruling, x, "appeal = " + ruling % 5);
        }
        Script.go("after 240 appeals", x, "rulings = 0", "townOf 0 = 5", "weather 0 = 0", "appeal = !State");
    }
}
