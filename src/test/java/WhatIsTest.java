/** Promises 10 to 17: townOf, strength, supply, townAfter, reported, force, weather, rulings. */
public final class WhatIsTest {

    private static final Class<IllegalArgumentException> ARGUMENT = IllegalArgumentException.class;
    private static final Class<IndexOutOfBoundsException> INDEX = IndexOutOfBoundsException.class;

    private static final int[] NO_UNITS = {-1, 2, 12, Integer.MIN_VALUE, Integer.MAX_VALUE};
    private static final int[] NO_TURNS = {-1, 3, 20, Integer.MIN_VALUE, Integer.MAX_VALUE};
    private static final int[] NO_SIDES = {-1, 2, Integer.MIN_VALUE, Integer.MAX_VALUE};
    private static final int[] NO_WEATHERS = {-1, 3, Integer.MIN_VALUE, Integer.MAX_VALUE};

    public static void main(String[] args) {
        promise10TownOfUnits();
        promise11StrengthOfUnits();
        promise12SupplyCountsRoads();
        promise12SupplyOfALostUnit();
        promise12SupplyGoesByWhereUnitsAreNow();
        promise12RefusesWrongUnitFirst();
        promise13TownAfterEachTurn();
        promise13RefusesWrongUnitAndTurn();
        promise14ReportsComeTwoTurnsLate();
        promise14ReportsStayWhenNoNewerOneTells();
        promise14ReportsAreAnewByARuling();
        promise14RefusesWrongSideFirst();
        promise15ForceSumsStrengths();
        promise15RefusesWrongSide();
        promise16WeatherAsPlayedLast();
        promise16RefusesWrongTurn();
        promise17CountsRulings();
        Due.end();
    }

    /** A road 0-1 and a strong unit 0 in town 0 against a weak unit 1 in town 1: unit 1 is lost in turn 1. */
    private static WarTable lossInTurn1() {
        WarTable x = new WarTable();
        x.addRoad(0, 1, true);
        x.addUnit(0, 0, 9);
        x.addUnit(1, 1, 3);
        x.order(0, 1);
        x.play(0);
        x.play(0);
        x.play(0);
        return x;
    }

    private static void promise10TownOfUnits() {
        WarTable x = lossInTurn1();
        Due.is("townOf(0)", x.townOf(0), 1);
        Due.is("townOf(1), lost", x.townOf(1), -1);
        for (int unit : NO_UNITS) {
            Due.refuses("townOf(" + unit + ")", INDEX, () -> x.townOf(unit));
        }
    }

    private static void promise11StrengthOfUnits() {
        WarTable x = lossInTurn1();
        Due.is("strength(0)", x.strength(0), 9);
        Due.is("strength(1), lost", x.strength(1), 0);
        for (int unit : NO_UNITS) {
            Due.refuses("strength(" + unit + ")", INDEX, () -> x.strength(unit));
        }
    }

    private static void promise12SupplyCountsRoads() {
        WarTable x = new WarTable();
        for (int town = 1; town < 6; town++) {
            x.addRoad(town - 1, town, town != 2);
        }
        for (int town = 0; town < 6; town++) {
            x.addUnit(0, town, 1);
        }
        x.addUnit(0, 8, 1);
        for (int town = 0; town < 6; town++) {
            Due.is("supply from town " + town + ", dry", x.supply(town, 0), town <= 4 ? town : -1);
            Due.is("supply from town " + town + ", rain", x.supply(town, 1), town <= 1 ? town : -1);
            Due.is("supply from town " + town + ", snow", x.supply(town, 2), town == 0 ? 0 : -1);
        }
        Due.is("supply from a town without roads", x.supply(6, 0), -1);
        x.addRoad(0, 3, true);
        Due.is("supply over the shorter way", x.supply(4, 0), 2);
        Due.is("supply over the shorter way, at most 4 now", x.supply(5, 0), 3);
    }

    private static void promise12SupplyOfALostUnit() {
        WarTable x = new WarTable();
        x.addRoad(0, 1, true);
        x.setDepot(1, 1);
        x.addUnit(0, 0, 9);
        x.addUnit(1, 1, 1);
        Due.is("supply(1, 0) at its depot", x.supply(1, 0), 0);
        x.order(0, 1);
        x.play(0);
        Due.is("supply(1, 0), lost", x.supply(1, 0), -1);
        Due.is("supply(0, 0)", x.supply(0, 0), 1);
        Due.refuses("supply(1, 3), lost", ARGUMENT, () -> x.supply(1, 3));
    }

    private static void promise12SupplyGoesByWhereUnitsAreNow() {
        WarTable x = new WarTable();
        x.addRoad(0, 1, true);
        x.addRoad(1, 2, true);
        x.addRoad(1, 9, true);
        x.addUnit(0, 2, 5);
        x.addUnit(1, 9, 5);
        Due.is("supply(0, 0)", x.supply(0, 0), 2);
        x.order(1, 1);
        x.play(0);
        Due.is("supply(0, 0) with the enemy between", x.supply(0, 0), -1);
        Due.is("supply(1, 0)", x.supply(1, 0), 1);
        x.order(1, 9);
        Due.is("supply(0, 0) with an order that is not played yet", x.supply(0, 0), -1);
        x.play(0);
        Due.is("supply(0, 0) with the enemy away", x.supply(0, 0), 2);
        x.rule(0, 2);
        x.rule(1, 2);
        Due.is("supply(1, 0) by a ruling", x.supply(1, 0), 0);
    }

    private static void promise12RefusesWrongUnitFirst() {
        WarTable x = lossInTurn1();
        for (int unit : NO_UNITS) {
            Due.refuses("supply(" + unit + ", 0)", INDEX, () -> x.supply(unit, 0));
            Due.refuses("supply(" + unit + ", 3)", INDEX, () -> x.supply(unit, 3));
        }
        for (int weather : NO_WEATHERS) {
            Due.refuses("supply(0, " + weather + ")", ARGUMENT, () -> x.supply(0, weather));
        }
    }

    private static void promise13TownAfterEachTurn() {
        WarTable x = lossInTurn1();
        Due.is("townAfter(0, 0)", x.townAfter(0, 0), 1);
        Due.is("townAfter(1, 0)", x.townAfter(1, 0), 1);
        Due.is("townAfter(1, 1), lost in it", x.townAfter(1, 1), -1);
        Due.is("townAfter(1, 2), lost before", x.townAfter(1, 2), -1);
        x.rule(0, 2);
        Due.is("townAfter(0, 0) by a ruling", x.townAfter(0, 0), 0);
        Due.is("townAfter(1, 2) by a ruling", x.townAfter(1, 2), 1);
        WarTable y = new WarTable();
        y.addRoad(0, 1, true);
        y.addUnit(0, 0, 1);
        for (int turn = 0; turn < 20; turn++) {
            y.order(0, (turn + 1) % 2);
            y.play(0);
        }
        for (int turn = 0; turn < 20; turn++) {
            Due.is("townAfter(0, " + turn + ")", y.townAfter(0, turn), (turn + 1) % 2);
        }
    }

    private static void promise13RefusesWrongUnitAndTurn() {
        WarTable x = lossInTurn1();
        for (int unit : NO_UNITS) {
            Due.refuses("townAfter(" + unit + ", 0)", INDEX, () -> x.townAfter(unit, 0));
        }
        for (int turn : NO_TURNS) {
            Due.refuses("townAfter(0, " + turn + ")", INDEX, () -> x.townAfter(0, turn));
        }
        WarTable y = new WarTable();
        y.addUnit(0, 0, 1);
        Due.refuses("townAfter(0, 0) ahead of turn 0", INDEX, () -> y.townAfter(0, 0));
        Due.refuses("townAfter(0, -1) ahead of turn 0", INDEX, () -> y.townAfter(0, -1));
    }

    private static void promise14ReportsComeTwoTurnsLate() {
        WarTable x = new WarTable();
        x.addRoad(0, 1, false);
        x.addRoad(1, 9, true);
        x.addUnit(0, 0, 5);
        x.addUnit(1, 1, 5);
        Due.is("reported(0, 1) ahead of turn 0", x.reported(0, 1), -1);
        x.order(1, 9);
        x.play(0);
        Due.is("reported(0, 1) after turn 0", x.reported(0, 1), -1);
        x.order(1, 1);
        x.play(0);
        Due.is("reported(0, 1) after turn 1", x.reported(0, 1), -1);
        x.order(1, 9);
        x.play(0);
        Due.is("reported(0, 1) after turn 2: out of sight in turn 0", x.reported(0, 1), -1);
        x.play(0);
        Due.is("reported(0, 1) after turn 3: seen in turn 1", x.reported(0, 1), 1);
        Due.is("reported(1, 0) after turn 3", x.reported(1, 0), 0);
    }

    private static void promise14ReportsStayWhenNoNewerOneTells() {
        WarTable x = lossInTurn1();
        // Turn 0 saw unit 1 in town 1; in turn 1 it was lost, so nothing was seen.
        Due.is("reported(0, 1) after turn 2", x.reported(0, 1), 1);
        Due.is("reported(1, 0) after turn 2", x.reported(1, 0), 1);
        x.order(0, 0);
        x.play(0);
        x.play(0);
        x.play(0);
        Due.is("reported(0, 1) after turn 5", x.reported(0, 1), 1);
        Due.is("reported(1, 0): nobody is left to see", x.reported(1, 0), 1);
    }

    private static void promise14ReportsAreAnewByARuling() {
        WarTable x = lossInTurn1();
        x.rule(0, 2);
        Due.is("reported(1, 0) by a ruling", x.reported(1, 0), 0);
        Due.is("reported(0, 1) by a ruling", x.reported(0, 1), 1);
        x.appeal();
        Due.is("reported(1, 0) by an appeal", x.reported(1, 0), 1);
        // A report is gone when nothing was seen by the ruling.
        WarTable y = new WarTable();
        y.addRoad(0, 1, true);
        y.addRoad(1, 2, true);
        y.addUnit(0, 0, 5);
        y.addUnit(1, 2, 5);
        y.order(0, 1);
        y.play(0);
        y.play(0);
        y.play(0);
        Due.is("reported(1, 0)", y.reported(1, 0), 1);
        y.rule(0, 2);
        Due.is("reported(1, 0), never in sight", y.reported(1, 0), -1);
        Due.is("reported(0, 1), never in sight", y.reported(0, 1), -1);
    }

    private static void promise14RefusesWrongSideFirst() {
        WarTable x = lossInTurn1();
        for (int side : NO_SIDES) {
            Due.refuses("reported(" + side + ", 0)", ARGUMENT, () -> x.reported(side, 0));
            Due.refuses("reported(" + side + ", 2)", ARGUMENT, () -> x.reported(side, 2));
        }
        for (int unit : NO_UNITS) {
            Due.refuses("reported(0, " + unit + ")", INDEX, () -> x.reported(0, unit));
            Due.refuses("reported(1, " + unit + ")", INDEX, () -> x.reported(1, unit));
        }
        Due.refuses("reported(0, 0), one of the side", INDEX, () -> x.reported(0, 0));
        Due.refuses("reported(1, 1), one of the side, lost", INDEX, () -> x.reported(1, 1));
    }

    private static void promise15ForceSumsStrengths() {
        WarTable x = new WarTable();
        x.addRoad(0, 1, true);
        x.addUnit(0, 0, 9);
        x.addUnit(0, 5, 3);
        x.addUnit(1, 1, 2);
        x.addUnit(1, 8, 7);
        Due.is("force(0), supplied or not", x.force(0), 12);
        Due.is("force(1), supplied or not", x.force(1), 9);
        x.order(0, 1);
        x.play(0);
        Due.is("force(0) after a fight", x.force(0), 12);
        Due.is("force(1) after a fight", x.force(1), 7);
        x.rule(0, 2);
        Due.is("force(1) by a ruling", x.force(1), 9);
    }

    private static void promise15RefusesWrongSide() {
        WarTable x = lossInTurn1();
        for (int side : NO_SIDES) {
            Due.refuses("force(" + side + ")", ARGUMENT, () -> x.force(side));
        }
    }

    private static void promise16WeatherAsPlayedLast() {
        WarTable x = new WarTable();
        x.play(2);
        x.play(0);
        x.play(1);
        Due.is("weather(0)", x.weather(0), 2);
        Due.is("weather(1)", x.weather(1), 0);
        Due.is("weather(2)", x.weather(2), 1);
        x.rule(1, 1);
        Due.is("weather(1) ruled", x.weather(1), 1);
        Due.is("weather(0) stays", x.weather(0), 2);
        Due.is("weather(2) stays", x.weather(2), 1);
        x.appeal();
        Due.is("weather(1) after an appeal", x.weather(1), 0);
    }

    private static void promise16RefusesWrongTurn() {
        WarTable x = lossInTurn1();
        for (int turn : NO_TURNS) {
            Due.refuses("weather(" + turn + ")", INDEX, () -> x.weather(turn));
        }
    }

    private static void promise17CountsRulings() {
        WarTable x = lossInTurn1();
        Due.is("rulings()", x.rulings(), 0);
        x.rule(0, 1);
        Due.is("rulings() after one", x.rulings(), 1);
        x.rule(0, 1);
        Due.is("rulings() after the same again", x.rulings(), 2);
        x.play(0);
        Due.is("rulings() after another turn", x.rulings(), 2);
        x.appeal();
        Due.is("rulings() after an appeal", x.rulings(), 1);
        x.appeal();
        Due.is("rulings() after another appeal", x.rulings(), 0);
    }
}
