/** Promises 1 to 4: a new object, addRoad, setDepot, addUnit. */
public final class MapTest {

    private static final Class<IllegalArgumentException> ARGUMENT = IllegalArgumentException.class;
    private static final Class<IllegalStateException> STATE = IllegalStateException.class;
    private static final Class<IndexOutOfBoundsException> INDEX = IndexOutOfBoundsException.class;

    public static void main(String[] args) {
        promise1NewObjectIsEmptyAheadOfTurn0();
        promise1DepotsAreTown0AndTown9();
        promise1ObjectsShareNothing();
        promise2RoadsAreCounted();
        promise2RefusesWrongTowns();
        promise2RefusesRoadBetweenJoinedTowns();
        promise2RefusesSixteenthRoad();
        promise2RefusesAfterATurn();
        promise2RoadIsPavedOrNot();
        promise3AnswersDepotBefore();
        promise3DepotGivesSupply();
        promise3RefusesWrongSideAndTown();
        promise3RefusesAfterATurn();
        promise4NumbersUnitsFrom0();
        promise4RefusesWrongArguments();
        promise4RefusesTownOfOtherSide();
        promise4RefusesThirteenthUnit();
        promise4RefusesAfterATurn();
        Due.end();
    }

    private static void promise1NewObjectIsEmptyAheadOfTurn0() {
        WarTable x = new WarTable();
        Due.is("played() of a new object", x.played(), 0);
        Due.is("rulings() of a new object", x.rulings(), 0);
        Due.is("force(0) of a new object", x.force(0), 0);
        Due.is("force(1) of a new object", x.force(1), 0);
        Due.refuses("townOf(0) of a new object", INDEX, () -> x.townOf(0));
        Due.refuses("weather(0) of a new object", INDEX, () -> x.weather(0));
        Due.refuses("appeal() of a new object", STATE, () -> x.appeal());
        Due.is("the first road of a new object", x.addRoad(4, 5, true), 1);
        Due.is("the first unit of a new object", x.addUnit(1, 4, 2), 0);
    }

    private static void promise1DepotsAreTown0AndTown9() {
        WarTable x = new WarTable();
        Due.is("first depot of side 0", x.setDepot(0, 3), 0);
        Due.is("first depot of side 1", x.setDepot(1, 4), 9);
    }

    private static void promise1ObjectsShareNothing() {
        WarTable x = new WarTable();
        x.addRoad(0, 1, true);
        x.addUnit(0, 0, 5);
        x.order(0, 1);
        x.play(1);
        x.rule(0, 2);
        WarTable y = new WarTable();
        Due.is("played() of another object", y.played(), 0);
        Due.is("rulings() of another object", y.rulings(), 0);
        Due.is("first road of another object", y.addRoad(0, 1, true), 1);
        Due.is("first unit of another object", y.addUnit(0, 0, 5), 0);
        Due.is("first order of another object", y.order(0, 1), -1);
    }

    private static void promise2RoadsAreCounted() {
        WarTable x = new WarTable();
        Due.is("addRoad(0, 9)", x.addRoad(0, 9, true), 1);
        Due.is("addRoad(9, 1)", x.addRoad(9, 1, false), 2);
        Due.is("addRoad(1, 0)", x.addRoad(1, 0, true), 3);
    }

    private static void promise2RefusesWrongTowns() {
        WarTable x = new WarTable();
        int[] wrong = {-1, 10, Integer.MIN_VALUE, Integer.MAX_VALUE};
        for (int town : wrong) {
            Due.refuses("addRoad(" + town + ", 5)", ARGUMENT, () -> x.addRoad(town, 5, true));
            Due.refuses("addRoad(5, " + town + ")", ARGUMENT, () -> x.addRoad(5, town, false));
        }
        for (int town = 0; town < 10; town++) {
            int same = town;
            Due.refuses("addRoad(" + town + ", " + town + ")", ARGUMENT, () -> x.addRoad(same, same, true));
        }
        Due.is("the first road after refused ones", x.addRoad(5, 6, true), 1);
        x.play(0);
        Due.refuses("addRoad(5, 10) after a turn", ARGUMENT, () -> x.addRoad(5, 10, true));
        Due.refuses("addRoad(5, 5) after a turn", ARGUMENT, () -> x.addRoad(5, 5, true));
    }

    private static void promise2RefusesRoadBetweenJoinedTowns() {
        WarTable x = new WarTable();
        x.addRoad(2, 7, true);
        x.addRoad(7, 3, false);
        for (boolean paved : new boolean[] {true, false}) {
            Due.refuses("addRoad(2, 7) again", STATE, () -> x.addRoad(2, 7, paved));
            Due.refuses("addRoad(7, 2) again", STATE, () -> x.addRoad(7, 2, paved));
            Due.refuses("addRoad(7, 3) again", STATE, () -> x.addRoad(7, 3, paved));
            Due.refuses("addRoad(3, 7) again", STATE, () -> x.addRoad(3, 7, paved));
        }
        Due.is("addRoad(2, 3)", x.addRoad(2, 3, true), 3);
        // What a refused call would have paved stays unpaved.
        x.setDepot(0, 7);
        x.addUnit(0, 3, 1);
        Due.is("supply in rain over 3-2-7", x.supply(0, 1), 2);
    }

    private static void promise2RefusesSixteenthRoad() {
        WarTable x = new WarTable();
        int roads = 0;
        for (int one = 0; one < 10; one++) {
            for (int other = one + 1; other < 10 && roads < 15; other++) {
                roads++;
                Due.is("road " + roads, x.addRoad(one, other, true), roads);
            }
        }
        Due.refuses("the 16th road", STATE, () -> x.addRoad(8, 9, true));
        Due.refuses("a wrong 16th road", ARGUMENT, () -> x.addRoad(9, 9, true));
    }

    private static void promise2RefusesAfterATurn() {
        WarTable x = new WarTable();
        x.addRoad(0, 1, true);
        x.play(0);
        Due.refuses("addRoad after a turn", STATE, () -> x.addRoad(1, 2, true));
    }

    private static void promise2RoadIsPavedOrNot() {
        WarTable x = new WarTable();
        x.addRoad(0, 1, true);
        x.addRoad(0, 2, false);
        x.addUnit(0, 1, 1);
        x.addUnit(0, 2, 1);
        Due.is("supply over a paved road, dry", x.supply(0, 0), 1);
        Due.is("supply over a paved road, rain", x.supply(0, 1), 1);
        Due.is("supply over a paved road, snow", x.supply(0, 2), -1);
        Due.is("supply over an unpaved road, dry", x.supply(1, 0), 1);
        Due.is("supply over an unpaved road, rain", x.supply(1, 1), -1);
        Due.is("supply over an unpaved road, snow", x.supply(1, 2), -1);
    }

    private static void promise3AnswersDepotBefore() {
        WarTable x = new WarTable();
        Due.is("setDepot(0, 9)", x.setDepot(0, 9), 0);
        Due.is("setDepot(0, 9) again", x.setDepot(0, 9), 9);
        Due.is("setDepot(0, 0)", x.setDepot(0, 0), 9);
        Due.is("setDepot(1, 0)", x.setDepot(1, 0), 9);
        Due.is("setDepot(1, 5)", x.setDepot(1, 5), 0);
    }

    private static void promise3DepotGivesSupply() {
        WarTable x = new WarTable();
        x.addRoad(4, 5, true);
        x.addUnit(0, 4, 1);
        x.addUnit(1, 8, 1);
        Due.is("supply(0, 0) far from depot 0", x.supply(0, 0), -1);
        x.setDepot(0, 5);
        Due.is("supply(0, 0) beside depot 5", x.supply(0, 0), 1);
        x.setDepot(0, 4);
        Due.is("supply(0, 0) at depot 4", x.supply(0, 0), 0);
        Due.is("supply(1, 0) with depot 9", x.supply(1, 0), -1);
        x.setDepot(1, 8);
        Due.is("supply(1, 0) at depot 8", x.supply(1, 0), 0);
        Due.is("supply(0, 0) stays", x.supply(0, 0), 0);
    }

    private static void promise3RefusesWrongSideAndTown() {
        WarTable x = new WarTable();
        int[] wrongSides = {-1, 2, Integer.MIN_VALUE, Integer.MAX_VALUE};
        int[] wrongTowns = {-1, 10, Integer.MIN_VALUE, Integer.MAX_VALUE};
        for (int side : wrongSides) {
            Due.refuses("setDepot(" + side + ", 3)", ARGUMENT, () -> x.setDepot(side, 3));
        }
        for (int town : wrongTowns) {
            Due.refuses("setDepot(0, " + town + ")", ARGUMENT, () -> x.setDepot(0, town));
            Due.refuses("setDepot(1, " + town + ")", ARGUMENT, () -> x.setDepot(1, town));
        }
        Due.is("depot 0 after refused calls", x.setDepot(0, 0), 0);
        Due.is("depot 1 after refused calls", x.setDepot(1, 9), 9);
    }

    private static void promise3RefusesAfterATurn() {
        WarTable x = new WarTable();
        x.addUnit(0, 0, 1);
        x.play(0);
        Due.refuses("setDepot(0, 3) after a turn", STATE, () -> x.setDepot(0, 3));
        Due.refuses("setDepot(2, 3) after a turn", ARGUMENT, () -> x.setDepot(2, 3));
        Due.refuses("setDepot(0, 10) after a turn", ARGUMENT, () -> x.setDepot(0, 10));
        Due.is("supply at the depot that stays", x.supply(0, 0), 0);
    }

    private static void promise4NumbersUnitsFrom0() {
        WarTable x = new WarTable();
        Due.is("first unit", x.addUnit(0, 3, 1), 0);
        Due.is("second unit", x.addUnit(1, 9, 9), 1);
        Due.is("third unit, in the town of the first", x.addUnit(0, 3, 4), 2);
        Due.is("townOf(0)", x.townOf(0), 3);
        Due.is("townOf(1)", x.townOf(1), 9);
        Due.is("townOf(2)", x.townOf(2), 3);
        Due.is("strength(0)", x.strength(0), 1);
        Due.is("strength(1)", x.strength(1), 9);
        Due.is("strength(2)", x.strength(2), 4);
        Due.is("force(0)", x.force(0), 5);
        Due.is("force(1)", x.force(1), 9);
    }

    private static void promise4RefusesWrongArguments() {
        WarTable x = new WarTable();
        x.addUnit(1, 4, 2);
        int[] wrongSides = {-1, 2, Integer.MIN_VALUE, Integer.MAX_VALUE};
        int[] wrongTowns = {-1, 10, Integer.MIN_VALUE, Integer.MAX_VALUE};
        int[] wrongStrengths = {0, 10, -1, Integer.MIN_VALUE, Integer.MAX_VALUE};
        for (int side : wrongSides) {
            Due.refuses("addUnit(" + side + ", 4, 5)", ARGUMENT, () -> x.addUnit(side, 4, 5));
        }
        for (int town : wrongTowns) {
            Due.refuses("addUnit(0, " + town + ", 5)", ARGUMENT, () -> x.addUnit(0, town, 5));
        }
        for (int strength : wrongStrengths) {
            Due.refuses("addUnit(0, 4, " + strength + ")", ARGUMENT, () -> x.addUnit(0, 4, strength));
        }
        Due.is("the next unit", x.addUnit(0, 5, 1), 1);
        x.play(0);
        Due.refuses("addUnit(2, 5, 1) after a turn", ARGUMENT, () -> x.addUnit(2, 5, 1));
        Due.refuses("addUnit(0, 10, 1) after a turn", ARGUMENT, () -> x.addUnit(0, 10, 1));
        Due.refuses("addUnit(0, 5, 0) after a turn", ARGUMENT, () -> x.addUnit(0, 5, 0));
    }

    private static void promise4RefusesTownOfOtherSide() {
        WarTable x = new WarTable();
        x.addUnit(0, 0, 5);
        x.addUnit(1, 9, 5);
        Due.refuses("addUnit(1, 0, 5)", STATE, () -> x.addUnit(1, 0, 5));
        Due.refuses("addUnit(0, 9, 5)", STATE, () -> x.addUnit(0, 9, 5));
        Due.is("addUnit(1, 9, 5)", x.addUnit(1, 9, 5), 2);
        Due.is("addUnit(0, 0, 5)", x.addUnit(0, 0, 5), 3);
        Due.is("force(0)", x.force(0), 10);
    }

    private static void promise4RefusesThirteenthUnit() {
        WarTable x = new WarTable();
        for (int unit = 0; unit < 12; unit++) {
            Due.is("unit " + unit, x.addUnit(unit % 2, unit % 10, 9), unit);
        }
        Due.refuses("the 13th unit", STATE, () -> x.addUnit(0, 0, 1));
        Due.refuses("a wrong 13th unit", ARGUMENT, () -> x.addUnit(0, 0, 10));
        Due.refuses("townOf(12)", INDEX, () -> x.townOf(12));
        Due.is("townOf(11)", x.townOf(11), 1);
        Due.is("force(0)", x.force(0), 54);
    }

    private static void promise4RefusesAfterATurn() {
        WarTable x = new WarTable();
        x.play(0);
        Due.refuses("addUnit after a turn", STATE, () -> x.addUnit(0, 0, 1));
        Due.refuses("townOf(0)", INDEX, () -> x.townOf(0));
    }
}
