/** How a turn is played: supply, orders, fights, sight, in that order. */
public final class TurnStepsTest {

    public static void main(String[] args) {
        supplyReachesFourRoads();
        supplyIsCutByTheOtherSideOnTheWay();
        supplyIsCutByTheOtherSideAtTheDepot();
        supplyIsCutByTheOtherSideInTheSameTown();
        supplyIsNotCutByLostUnits();
        supplyGoesByTheWeatherOfTheTurn();
        supplyOfBothSidesGoesByTheWeather();
        supplyIsFromWhenTheTurnBegan();
        ordersNeedARoadThatIsOpen();
        ordersNeedSupply();
        ordersAreOpenedAtOnce();
        unitsAgainstOneAnotherBothStay();
        unitsOfOneSideMayPass();
        unitThatCannotGoBlocksNobody();
        severalUnitsAgainstOneAllStay();
        unitsMeetInAThirdTown();
        winnerLosesOneIfTheOtherSumIsMoreThanHalf();
        nobodyWinsWithTheSameSum();
        unsuppliedUnitsCountHalfRoundedDownEach();
        strengthIsAtLeastZero();
        fightGoesOnWhereUnitsStay();
        fightsAreInEveryTown();
        fightsAreInTheFirstAndTheLastTown();
        sightIsInTheTownAndNextToIt();
        sightGoesOverClosedRoads();
        sightIsAfterMarchAndFight();
        lostUnitsDoNotSee();
        Due.end();
    }

    /** Roads 0-1-2-3-4-5, all paved. */
    private static WarTable chain() {
        WarTable x = new WarTable();
        for (int town = 1; town < 6; town++) {
            x.addRoad(town - 1, town, true);
        }
        return x;
    }

    private static void supplyReachesFourRoads() {
        WarTable x = chain();
        x.addUnit(0, 4, 5);
        x.addUnit(0, 5, 5);
        x.order(0, 3);
        x.order(1, 4);
        x.play(0);
        Due.is("a unit four roads from the depot goes", x.townOf(0), 3);
        Due.is("a unit five roads from the depot stays", x.townOf(1), 5);
    }

    private static void supplyIsCutByTheOtherSideOnTheWay() {
        WarTable x = chain();
        x.addRoad(1, 8, true);
        x.addRoad(8, 3, true);
        x.addUnit(0, 3, 5);
        x.addUnit(1, 2, 5);
        Due.is("supply over the safe way of the same length", x.supply(0, 0), 3);
        WarTable y = chain();
        y.addUnit(0, 3, 5);
        y.addUnit(1, 2, 1);
        Due.is("supply with the other side on the only way", y.supply(0, 0), -1);
        WarTable z = chain();
        z.addUnit(0, 3, 5);
        z.addUnit(0, 2, 5);
        Due.is("supply with the own side on the way", z.supply(0, 0), 3);
        WarTable w = chain();
        w.addRoad(0, 7, true);
        w.addRoad(7, 8, true);
        w.addRoad(8, 2, true);
        w.addUnit(0, 2, 5);
        w.addUnit(1, 1, 5);
        Due.is("supply over the longer safe way", w.supply(0, 0), 3);
        w.order(0, 3);
        w.play(0);
        Due.is("it goes by that", w.townOf(0), 3);
    }

    private static void supplyIsCutByTheOtherSideAtTheDepot() {
        WarTable x = chain();
        x.addUnit(0, 1, 5);
        x.addUnit(1, 0, 5);
        Due.is("supply with the other side at the depot", x.supply(0, 0), -1);
        x.order(0, 2);
        x.play(0);
        Due.is("the unit stays", x.townOf(0), 1);
    }

    private static void supplyIsCutByTheOtherSideInTheSameTown() {
        WarTable x = chain();
        x.setDepot(1, 2);
        x.addUnit(0, 1, 9);
        x.addUnit(1, 2, 9);
        x.order(1, 1);
        x.play(0);
        Due.is("strength(0)", x.strength(0), 8);
        Due.is("supply(0, 0) with the other side in its town", x.supply(0, 0), -1);
        Due.is("supply(1, 0) with the other side in its town", x.supply(1, 0), -1);
        x.order(0, 0);
        x.order(1, 2);
        x.play(0);
        Due.is("unit 0 stays", x.townOf(0), 1);
        Due.is("unit 1 stays", x.townOf(1), 1);
        Due.is("they fight again", x.strength(0), 7);
        // Both stand at one depot now.
        WarTable y = chain();
        y.setDepot(1, 1);
        y.addUnit(0, 0, 5);
        y.addUnit(1, 1, 5);
        y.order(1, 0);
        y.play(0);
        Due.is("supply(0, 0) at its depot with the other side there", y.supply(0, 0), -1);
    }

    private static void supplyIsNotCutByLostUnits() {
        WarTable x = chain();
        x.addUnit(0, 0, 9);
        x.addUnit(0, 2, 2);
        x.addUnit(1, 1, 1);
        Due.is("supply(1, 0) at first", x.supply(1, 0), -1);
        x.order(0, 1);
        Due.is("play(0)", x.play(0), 1);
        Due.is("supply(1, 0) when the other unit is lost", x.supply(1, 0), 2);
        x.order(1, 3);
        x.play(0);
        Due.is("townOf(1)", x.townOf(1), 3);
    }

    private static void supplyGoesByTheWeatherOfTheTurn() {
        WarTable x = new WarTable();
        x.addRoad(0, 1, false);
        x.addRoad(1, 2, true);
        x.addUnit(0, 1, 5);
        x.order(0, 2);
        x.play(1);
        Due.is("no supply in rain, though its own road is open", x.townOf(0), 1);
        x.order(0, 2);
        x.play(0);
        Due.is("supply when it is dry", x.townOf(0), 2);
    }

    private static void supplyOfBothSidesGoesByTheWeather() {
        int[][] due = {{3, 7}, {2, 8}, {2, 8}};
        for (int weather = 0; weather < 3; weather++) {
            WarTable x = new WarTable();
            x.addRoad(0, 2, false);
            x.addRoad(2, 3, true);
            x.addRoad(9, 8, false);
            x.addRoad(8, 7, true);
            x.addUnit(0, 2, 5);
            x.addUnit(1, 8, 5);
            x.order(0, 3);
            x.order(1, 7);
            x.play(weather);
            Due.is("townOf(0) in weather " + weather, x.townOf(0), due[weather][0]);
            Due.is("townOf(1) in weather " + weather, x.townOf(1), due[weather][1]);
        }
    }

    private static void supplyIsFromWhenTheTurnBegan() {
        WarTable x = chain();
        x.addRoad(0, 8, true);
        x.setDepot(1, 3);
        x.addUnit(0, 0, 9);
        x.addUnit(0, 2, 4);
        x.addUnit(1, 3, 9);
        // Unit 1 is supplied when the turn begins, so that it counts in full in the fight.
        x.order(2, 2);
        x.play(0);
        Due.is("4 against 9: strength(1)", x.strength(1), 2);
        Due.is("4 against 9: strength(2), 4 is not more than half", x.strength(2), 9);
        x.play(0);
        Due.is("1 against 4: strength(2)", x.strength(2), 9);
        // A unit that marches away from its depot over a road stays supplied in that turn.
        WarTable y = chain();
        y.addUnit(0, 0, 6);
        y.addUnit(1, 1, 8);
        y.order(0, 1);
        y.play(0);
        Due.is("6 against 4 (half of 8): strength(1)", y.strength(1), 6);
        Due.is("6 against 4 (half of 8): strength(0)", y.strength(0), 5);
        y.play(0);
        Due.is("2 against 3, both without supply: strength(0)", y.strength(0), 3);
        Due.is("2 against 3, both without supply: strength(1)", y.strength(1), 5);
    }

    private static void ordersNeedARoadThatIsOpen() {
        WarTable x = new WarTable();
        x.addRoad(0, 1, true);
        x.addRoad(0, 2, false);
        x.addUnit(0, 0, 1);
        x.addUnit(0, 0, 1);
        x.addUnit(0, 0, 1);
        x.addUnit(0, 0, 1);
        int[] ordered = {1, 2, 3, 0};
        int[][] due = {{1, 2, 0, 0}, {1, 0, 0, 0}, {0, 0, 0, 0}};
        x.order(0, 1);
        x.order(1, 2);
        x.order(2, 3);
        x.order(3, 0);
        x.play(0);
        for (int weather = 0; weather < 3; weather++) {
            x.rule(0, weather);
            for (int unit = 0; unit < 4; unit++) {
                Due.is("order to " + ordered[unit] + " in weather " + weather, x.townOf(unit), due[weather][unit]);
            }
        }
    }

    private static void ordersNeedSupply() {
        WarTable x = new WarTable();
        x.addRoad(4, 5, true);
        x.addUnit(0, 4, 5);
        x.order(0, 5);
        x.play(0);
        Due.is("a unit without supply stays", x.townOf(0), 4);
    }

    private static void ordersAreOpenedAtOnce() {
        WarTable x = chain();
        x.setDepot(1, 5);
        x.addUnit(0, 1, 9);
        x.addUnit(1, 2, 1);
        x.order(0, 2);
        x.order(1, 3);
        x.play(0);
        Due.is("the unit that follows", x.townOf(0), 2);
        Due.is("the unit that goes away does not fight", x.strength(1), 1);
        Due.is("the unit that goes away", x.townOf(1), 3);
        // An order goes from where the unit was when the turn began, not two roads in a turn.
        WarTable y = chain();
        y.addUnit(0, 0, 1);
        y.order(0, 2);
        y.play(0);
        Due.is("a town two roads away", y.townOf(0), 0);
    }

    private static void unitsAgainstOneAnotherBothStay() {
        WarTable x = chain();
        x.setDepot(1, 2);
        x.addUnit(0, 1, 9);
        x.addUnit(1, 2, 1);
        x.order(0, 2);
        x.order(1, 1);
        Due.is("play(0)", x.play(0), 0);
        Due.is("townOf(0)", x.townOf(0), 1);
        Due.is("townOf(1)", x.townOf(1), 2);
        Due.is("strength(0)", x.strength(0), 9);
        Due.is("strength(1)", x.strength(1), 1);
    }

    private static void unitsOfOneSideMayPass() {
        WarTable x = chain();
        x.addUnit(0, 1, 9);
        x.addUnit(0, 2, 1);
        x.order(0, 2);
        x.order(1, 1);
        x.play(0);
        Due.is("townOf(0)", x.townOf(0), 2);
        Due.is("townOf(1)", x.townOf(1), 1);
    }

    private static void unitThatCannotGoBlocksNobody() {
        WarTable x = chain();
        x.addUnit(0, 1, 9);
        x.addUnit(1, 2, 4);
        x.order(0, 2);
        x.order(1, 1);
        x.play(0);
        Due.is("unit 1 has no supply, so unit 0 goes", x.townOf(0), 2);
        Due.is("unit 1 stays", x.townOf(1), 2);
        Due.is("9 against 2: strength(1)", x.strength(1), 2);
    }

    private static void severalUnitsAgainstOneAllStay() {
        WarTable x = chain();
        x.setDepot(1, 2);
        x.addUnit(0, 1, 9);
        x.addUnit(0, 1, 9);
        x.addUnit(0, 1, 9);
        x.addUnit(1, 2, 1);
        x.addUnit(1, 2, 1);
        x.order(0, 2);
        x.order(1, 2);
        x.order(2, 0);
        x.order(3, 1);
        x.order(4, 3);
        x.play(0);
        Due.is("townOf(0)", x.townOf(0), 1);
        Due.is("townOf(1)", x.townOf(1), 1);
        Due.is("townOf(2), over another road", x.townOf(2), 0);
        Due.is("townOf(3)", x.townOf(3), 2);
        Due.is("townOf(4), over another road", x.townOf(4), 3);
    }

    private static void unitsMeetInAThirdTown() {
        WarTable x = chain();
        x.setDepot(1, 3);
        x.addUnit(0, 1, 5);
        x.addUnit(1, 3, 4);
        x.order(0, 2);
        x.order(1, 2);
        x.play(0);
        Due.is("townOf(0)", x.townOf(0), 2);
        Due.is("townOf(1)", x.townOf(1), 2);
        Due.is("5 against 4: strength(0)", x.strength(0), 4);
        Due.is("5 against 4: strength(1)", x.strength(1), 2);
    }

    /** Side 0 comes to town 1 over a road; side 1 stands there with its depot. */
    private static WarTable fight(int[] strengths0, int[] strengths1) {
        WarTable x = chain();
        x.setDepot(1, 1);
        for (int strength : strengths0) {
            int unit = x.addUnit(0, 0, strength);
            x.order(unit, 1);
        }
        for (int strength : strengths1) {
            x.addUnit(1, 1, strength);
        }
        x.play(0);
        return x;
    }

    private static void winnerLosesOneIfTheOtherSumIsMoreThanHalf() {
        int[][] cases = {
            // sums, and what each side loses
            {9, 4, 0, 2}, {9, 5, 1, 2}, {8, 4, 0, 2}, {8, 5, 1, 2}, {7, 3, 0, 2}, {7, 4, 1, 2},
            {4, 9, 2, 0}, {5, 9, 2, 1}, {4, 8, 2, 0}, {5, 8, 2, 1}, {6, 6, 1, 1}, {3, 4, 2, 1},
        };
        for (int[] row : cases) {
            WarTable x = fight(new int[] {row[0]}, new int[] {row[1]});
            Due.is(row[0] + " against " + row[1] + ": strength(0)", x.strength(0), row[0] - row[2]);
            Due.is(row[0] + " against " + row[1] + ": strength(1)", x.strength(1), row[1] - row[3]);
        }
        WarTable y = fight(new int[] {5, 4, 3}, new int[] {6, 7});
        int[] due = {3, 2, 1, 5, 6};
        for (int unit = 0; unit < 5; unit++) {
            Due.is("12 against 13: strength(" + unit + ")", y.strength(unit), due[unit]);
        }
    }

    private static void nobodyWinsWithTheSameSum() {
        WarTable x = fight(new int[] {5, 4, 1}, new int[] {9, 1});
        int[] due = {4, 3, 0, 8, 0};
        for (int unit = 0; unit < 5; unit++) {
            Due.is("10 against 10: strength(" + unit + ")", x.strength(unit), due[unit]);
        }
        Due.is("townOf(2), lost", x.townOf(2), -1);
        Due.is("townOf(4), lost", x.townOf(4), -1);
        Due.is("townOf(0)", x.townOf(0), 1);
        // Two units without supply and a strength of 1 count nothing, and 0 against 0 nobody wins.
        WarTable y = fight(new int[] {2}, new int[] {2});
        Due.is("2 against 2: strength(0)", y.strength(0), 1);
        Due.is("0 against 0 is lost by both", y.play(0), 2);
    }

    private static void unsuppliedUnitsCountHalfRoundedDownEach() {
        WarTable x = chain();
        x.addUnit(0, 0, 3);
        x.order(0, 1);
        x.addUnit(1, 1, 3);
        x.addUnit(1, 1, 3);
        x.addUnit(1, 1, 1);
        x.play(0);
        // 1 + 1 + 0, where half of the sum would be 3.
        Due.is("3 against 2: strength(0)", x.strength(0), 2);
        Due.is("3 against 2: strength(1)", x.strength(1), 1);
        Due.is("3 against 2: strength(3)", x.strength(3), 0);
        // One unit has supply from town 9 and comes to two that have none.
        WarTable y = chain();
        y.addRoad(9, 1, true);
        y.addUnit(0, 0, 9);
        y.addUnit(1, 9, 5);
        y.addUnit(0, 2, 9);
        y.order(0, 1);
        y.play(0);
        Due.is("no fight yet", y.force(0) + y.force(1), 23);
        y.order(1, 1);
        y.play(0);
        Due.is("5 against 9: strength(0)", y.strength(0), 8);
        Due.is("5 against 9: strength(1)", y.strength(1), 3);
    }

    private static void strengthIsAtLeastZero() {
        WarTable x = fight(new int[] {9}, new int[] {1, 2, 3});
        Due.is("9 against 6: strength(1)", x.strength(1), 0);
        Due.is("9 against 6: strength(2)", x.strength(2), 0);
        Due.is("9 against 6: strength(3)", x.strength(3), 1);
        Due.is("force(1)", x.force(1), 1);
        Due.is("townOf(1)", x.townOf(1), -1);
        Due.is("townOf(2)", x.townOf(2), -1);
        Due.is("townOf(3)", x.townOf(3), 1);
    }

    private static void fightGoesOnWhereUnitsStay() {
        WarTable x = fight(new int[] {9}, new int[] {5});
        Due.is("9 against 5: strength(0)", x.strength(0), 8);
        Due.is("9 against 5: strength(1)", x.strength(1), 3);
        x.play(2);
        Due.is("4 against 1 without supply: strength(0)", x.strength(0), 8);
        Due.is("4 against 1 without supply: strength(1)", x.strength(1), 1);
        Due.is("the last one is lost", x.play(1), 1);
        Due.is("no fight with a lost unit", x.play(0), 0);
        Due.is("strength(0)", x.strength(0), 8);
    }

    private static void fightsAreInEveryTown() {
        WarTable x = new WarTable();
        x.setDepot(1, 8);
        x.addRoad(0, 7, true);
        x.addRoad(8, 9, true);
        x.addUnit(0, 0, 5);
        x.addUnit(1, 7, 4);
        x.addUnit(0, 9, 4);
        x.addUnit(1, 8, 5);
        x.addUnit(0, 3, 4);
        x.order(0, 7);
        x.order(3, 9);
        x.play(0);
        int[] due = {5, 2, 2, 5, 4};
        for (int unit = 0; unit < 5; unit++) {
            Due.is("two fights: strength(" + unit + ")", x.strength(unit), due[unit]);
        }
    }

    private static void fightsAreInTheFirstAndTheLastTown() {
        WarTable x = new WarTable();
        x.setDepot(0, 8);
        x.setDepot(1, 1);
        x.addRoad(0, 1, true);
        x.addRoad(8, 9, true);
        x.addUnit(1, 1, 8);
        x.addUnit(0, 0, 8);
        x.addUnit(0, 8, 8);
        x.addUnit(1, 9, 8);
        x.order(0, 0);
        x.order(2, 9);
        x.play(0);
        int[] due = {8, 6, 8, 6};
        for (int unit = 0; unit < 4; unit++) {
            Due.is("8 against 4 in towns 0 and 9: strength(" + unit + ")", x.strength(unit), due[unit]);
        }
    }

    private static void sightIsInTheTownAndNextToIt() {
        WarTable x = chain();
        x.addUnit(0, 2, 1);
        for (int town = 0; town < 6; town++) {
            if (town != 2) {
                x.addUnit(1, town, 1);
            }
        }
        x.play(0);
        x.play(0);
        x.play(0);
        int[] due = {-1, 1, 3, -1, -1};
        for (int unit = 1; unit <= 5; unit++) {
            Due.is("reported(0, " + unit + ")", x.reported(0, unit), due[unit - 1]);
        }
        Due.is("reported(1, 0)", x.reported(1, 0), 2);
        // The only one that sees far away is in the same town.
        WarTable y = fight(new int[] {9}, new int[] {9});
        y.play(0);
        y.play(0);
        Due.is("reported(0, 1) in the same town", y.reported(0, 1), 1);
        Due.is("reported(1, 0) in the same town", y.reported(1, 0), 1);
    }

    private static void sightGoesOverClosedRoads() {
        for (int weather = 0; weather < 3; weather++) {
            WarTable x = new WarTable();
            x.addRoad(3, 4, false);
            x.addRoad(6, 5, true);
            x.addUnit(0, 3, 1);
            x.addUnit(1, 4, 1);
            x.addUnit(0, 6, 1);
            x.addUnit(1, 5, 1);
            x.play(weather);
            x.play(weather);
            x.play(weather);
            Due.is("reported(0, 1) in weather " + weather, x.reported(0, 1), 4);
            Due.is("reported(1, 0) in weather " + weather, x.reported(1, 0), 3);
            Due.is("reported(0, 3) in weather " + weather, x.reported(0, 3), 5);
            Due.is("reported(1, 2) in weather " + weather, x.reported(1, 2), 6);
        }
    }

    private static void sightIsAfterMarchAndFight() {
        WarTable x = chain();
        x.setDepot(1, 5);
        x.addUnit(0, 1, 5);
        x.addUnit(1, 3, 5);
        x.order(0, 0);
        x.order(1, 2);
        x.play(0);
        x.play(0);
        x.play(0);
        Due.is("unit 1 came to town 2, two roads from town 0", x.reported(0, 1), -1);
        WarTable y = chain();
        y.setDepot(1, 5);
        y.addUnit(0, 0, 5);
        y.addUnit(1, 2, 5);
        y.order(1, 1);
        y.play(0);
        y.play(0);
        y.play(0);
        Due.is("unit 1 came to town 1", y.reported(0, 1), 1);
    }

    private static void lostUnitsDoNotSee() {
        WarTable x = fight(new int[] {9}, new int[] {1});
        x.play(0);
        x.play(0);
        Due.is("a lost unit is not seen", x.reported(0, 1), -1);
        Due.is("a lost unit does not see", x.reported(1, 0), -1);
    }
}
