/** Promises 5 to 9: order, play, played, rule, appeal. */
public final class TurnsTest {

    private static final Class<IllegalArgumentException> ARGUMENT = IllegalArgumentException.class;
    private static final Class<IllegalStateException> STATE = IllegalStateException.class;
    private static final Class<IndexOutOfBoundsException> INDEX = IndexOutOfBoundsException.class;

    public static void main(String[] args) {
        promise5AnswersOrderBefore();
        promise5RefusesWrongUnitFirst();
        promise5RefusesWrongTown();
        promise5TakesOrdersForLostUnits();
        promise5TakesOrdersAfterTheLastTurn();
        promise6UsesOrdersUp();
        promise6CountsLostUnitsOfTheTurn();
        promise6RefusesWrongWeather();
        promise6RefusesTwentyFirstTurn();
        promise6RefusedCallKeepsOrders();
        promise7CountsTurns();
        promise8PlaysAgainWithTheSameOrders();
        promise8CountsUnitsThatStandOtherwise();
        promise8CountsRulingThatChangesNothing();
        promise8KeepsOrdersForTheNextTurn();
        promise8BringsALostUnitBack();
        promise8LaterRulingsOfOtherTurnsStay();
        promise8RulesTheFirstOfTwentyTurns();
        promise8RefusesWrongTurnFirst();
        promise8RefusesWrongWeather();
        promise9TakesRulingsBackFromTheLast();
        promise9GivesBackTheWeatherAheadOfTheRuling();
        promise9PlaysTurnsBehindTheRulingAgain();
        promise9RefusesWithoutRuling();
        promise9StandsForAsManyRulingsAsThereAreCalls();
        Due.end();
    }

    private static WarTable paved(int towns) {
        WarTable x = new WarTable();
        for (int town = 1; town < towns; town++) {
            x.addRoad(town - 1, town, true);
        }
        return x;
    }

    private static void promise5AnswersOrderBefore() {
        WarTable x = paved(4);
        x.addUnit(0, 0, 5);
        x.addUnit(0, 1, 5);
        Due.is("order(0, 1)", x.order(0, 1), -1);
        Due.is("order(0, 9)", x.order(0, 9), 1);
        Due.is("order(0, 0)", x.order(0, 0), 9);
        Due.is("order(0, -1)", x.order(0, -1), 0);
        Due.is("order(0, -1) again", x.order(0, -1), -1);
        Due.is("order(1, 2)", x.order(1, 2), -1);
        Due.is("order(1, 0)", x.order(1, 0), 2);
        x.play(0);
        Due.is("townOf(0) without order", x.townOf(0), 0);
        Due.is("townOf(1) by its last order", x.townOf(1), 0);
    }

    private static void promise5RefusesWrongUnitFirst() {
        WarTable x = paved(4);
        Due.refuses("order(0, 1) without units", INDEX, () -> x.order(0, 1));
        x.addUnit(0, 0, 5);
        int[] wrong = {-1, 1, 12, Integer.MIN_VALUE, Integer.MAX_VALUE};
        for (int unit : wrong) {
            Due.refuses("order(" + unit + ", 1)", INDEX, () -> x.order(unit, 1));
            Due.refuses("order(" + unit + ", 10)", INDEX, () -> x.order(unit, 10));
        }
    }

    private static void promise5RefusesWrongTown() {
        WarTable x = paved(4);
        x.addUnit(0, 0, 5);
        x.order(0, 1);
        int[] wrong = {-2, 10, Integer.MIN_VALUE, Integer.MAX_VALUE};
        for (int town : wrong) {
            Due.refuses("order(0, " + town + ")", ARGUMENT, () -> x.order(0, town));
        }
        Due.is("the order before, after refused ones", x.order(0, 1), 1);
    }

    private static void promise5TakesOrdersForLostUnits() {
        WarTable x = paved(2);
        x.addUnit(0, 0, 9);
        x.addUnit(1, 1, 1);
        x.order(0, 1);
        Due.is("play(0)", x.play(0), 1);
        Due.is("order(1, 0) of a lost unit", x.order(1, 0), -1);
        Due.is("order(1, 1) of a lost unit", x.order(1, 1), 0);
        Due.refuses("order(1, 10) of a lost unit", ARGUMENT, () -> x.order(1, 10));
        Due.is("play(0) again", x.play(0), 0);
        Due.is("townOf(1)", x.townOf(1), -1);
    }

    private static void promise5TakesOrdersAfterTheLastTurn() {
        WarTable x = paved(2);
        x.addUnit(0, 0, 9);
        for (int turn = 0; turn < 20; turn++) {
            x.play(0);
        }
        Due.is("order(0, 1)", x.order(0, 1), -1);
        Due.is("order(0, 0)", x.order(0, 0), 1);
        Due.is("townOf(0)", x.townOf(0), 0);
        x.rule(19, 1);
        Due.is("townOf(0) after a ruling", x.townOf(0), 0);
        Due.is("order(0, -1)", x.order(0, -1), 0);
    }

    private static void promise6UsesOrdersUp() {
        WarTable x = paved(4);
        x.addUnit(0, 0, 5);
        x.order(0, 1);
        x.play(0);
        Due.is("townOf(0)", x.townOf(0), 1);
        Due.is("order(0, 0)", x.order(0, 0), -1);
        x.play(2);
        Due.is("townOf(0) in snow", x.townOf(0), 1);
        Due.is("order(0, -1) after an order that failed", x.order(0, -1), -1);
        x.play(0);
        Due.is("townOf(0) without order", x.townOf(0), 1);
    }

    private static void promise6CountsLostUnitsOfTheTurn() {
        WarTable x = paved(3);
        x.setDepot(1, 2);
        x.addUnit(0, 0, 9);
        x.addUnit(1, 1, 1);
        x.addUnit(1, 1, 2);
        x.addUnit(1, 1, 3);
        x.addUnit(0, 0, 1);
        x.order(0, 1);
        x.order(4, 1);
        Due.is("play(0): 10 against 6", x.play(0), 3);
        Due.is("strength(0)", x.strength(0), 8);
        Due.is("strength(4)", x.strength(4), 0);
        Due.is("townOf(4)", x.townOf(4), -1);
        Due.is("strength(3)", x.strength(3), 1);
        Due.is("play(0): the last one", x.play(0), 1);
        Due.is("play(0): nobody is left", x.play(0), 0);
    }

    private static void promise6RefusesWrongWeather() {
        WarTable x = new WarTable();
        int[] wrong = {-1, 3, Integer.MIN_VALUE, Integer.MAX_VALUE};
        for (int weather : wrong) {
            Due.refuses("play(" + weather + ")", ARGUMENT, () -> x.play(weather));
        }
        Due.is("played() after refused turns", x.played(), 0);
        for (int turn = 0; turn < 20; turn++) {
            x.play(turn % 3);
        }
        Due.refuses("play(3) after the last turn", ARGUMENT, () -> x.play(3));
        Due.refuses("play(-1) after the last turn", ARGUMENT, () -> x.play(-1));
    }

    private static void promise6RefusesTwentyFirstTurn() {
        WarTable x = new WarTable();
        for (int turn = 0; turn < 20; turn++) {
            Due.is("turn " + turn, x.play(turn % 3), 0);
            Due.is("weather(" + turn + ")", x.weather(turn), turn % 3);
        }
        Due.refuses("the 21st turn", STATE, () -> x.play(0));
        Due.is("played()", x.played(), 20);
        Due.refuses("weather(20)", INDEX, () -> x.weather(20));
    }

    private static void promise6RefusedCallKeepsOrders() {
        WarTable x = paved(2);
        x.addUnit(0, 0, 5);
        x.order(0, 1);
        Due.refuses("play(3)", ARGUMENT, () -> x.play(3));
        Due.is("the order is kept", x.order(0, 1), 1);
        x.play(0);
        Due.is("townOf(0)", x.townOf(0), 1);
    }

    private static void promise7CountsTurns() {
        WarTable x = new WarTable();
        for (int turn = 0; turn < 20; turn++) {
            Due.is("played() ahead of turn " + turn, x.played(), turn);
            x.play(0);
        }
        Due.is("played() after all", x.played(), 20);
        x.rule(3, 1);
        Due.is("played() after a ruling", x.played(), 20);
        x.appeal();
        Due.is("played() after an appeal", x.played(), 20);
    }

    private static void promise8PlaysAgainWithTheSameOrders() {
        WarTable x = paved(5);
        x.addUnit(0, 0, 5);
        for (int town = 1; town < 5; town++) {
            x.order(0, town);
            x.play(0);
        }
        Due.is("townOf(0)", x.townOf(0), 4);
        Due.is("rule(3, 2)", x.rule(3, 2), 1);
        Due.is("townOf(0) without its last march", x.townOf(0), 3);
        Due.is("rule(1, 2)", x.rule(1, 2), 1);
        Due.is("townOf(0): the road 1-3 is none", x.townOf(0), 1);
        Due.is("townAfter(0, 0)", x.townAfter(0, 0), 1);
        Due.is("townAfter(0, 1)", x.townAfter(0, 1), 1);
        Due.is("rule(3, 0)", x.rule(3, 0), 0);
        Due.is("rule(1, 1)", x.rule(1, 1), 1);
        Due.is("townOf(0) on paved roads", x.townOf(0), 4);
        Due.is("weather(1)", x.weather(1), 1);
        Due.is("weather(3)", x.weather(3), 0);
        Due.is("rulings()", x.rulings(), 4);
    }

    private static void promise8CountsUnitsThatStandOtherwise() {
        WarTable x = paved(3);
        x.setDepot(1, 2);
        x.addUnit(0, 0, 9);
        x.addUnit(1, 2, 1);
        x.addUnit(1, 2, 7);
        x.addUnit(0, 0, 2);
        x.order(0, 1);
        x.order(1, 1);
        x.order(2, 1);
        Due.is("play(0): 9 against 8", x.play(0), 1);
        Due.is("rule(0, 2): three units, one of them back", x.rule(0, 2), 3);
        Due.is("rule(0, 2) again", x.rule(0, 2), 0);
        Due.is("rule(0, 1): three units again", x.rule(0, 1), 3);
        Due.is("rule(0, 0): paved roads are the same in rain", x.rule(0, 0), 0);
        // Here the towns stay and a strength alone is another.
        WarTable y = new WarTable();
        y.addRoad(0, 1, true);
        y.addUnit(0, 1, 4);
        y.addUnit(1, 9, 4);
        y.addRoad(1, 9, false);
        y.order(1, 1);
        y.play(0);
        Due.is("strength(0) after 4 against 4", y.strength(0), 3);
        y.play(2);
        Due.is("strength(0) after 1 against 1", y.strength(0), 2);
        Due.is("rule(1, 1): side 0 has its road", y.rule(1, 1), 0);
        Due.is("rule(1, 0)", y.rule(1, 0), 0);
    }

    private static void promise8CountsRulingThatChangesNothing() {
        WarTable x = paved(2);
        x.addUnit(0, 0, 5);
        x.play(1);
        Due.is("rule(0, 1), as it was", x.rule(0, 1), 0);
        Due.is("rulings()", x.rulings(), 1);
        Due.is("weather(0)", x.weather(0), 1);
        Due.is("appeal()", x.appeal(), 0);
        Due.is("weather(0) after it", x.weather(0), 1);
        Due.is("rulings() after it", x.rulings(), 0);
    }

    private static void promise8KeepsOrdersForTheNextTurn() {
        WarTable x = paved(3);
        x.addUnit(0, 0, 5);
        x.order(0, 1);
        x.play(2);
        x.order(0, 1);
        x.rule(0, 0);
        Due.is("townOf(0) after the ruling", x.townOf(0), 1);
        Due.is("the next order is kept", x.order(0, 2), 1);
        x.appeal();
        Due.is("townOf(0) after the appeal", x.townOf(0), 0);
        Due.is("the next order is kept still", x.order(0, 1), 2);
        x.play(0);
        Due.is("townOf(0) after the next turn", x.townOf(0), 1);
    }

    private static void promise8BringsALostUnitBack() {
        WarTable x = paved(4);
        x.setDepot(1, 1);
        x.addUnit(0, 0, 9);
        x.addUnit(1, 1, 2);
        x.order(0, 1);
        Due.is("play(0)", x.play(0), 1);
        x.order(1, 2);
        x.play(0);
        Due.is("townOf(1), lost", x.townOf(1), -1);
        Due.is("rule(0, 2)", x.rule(0, 2), 2);
        Due.is("townOf(1) by the order given while it was lost", x.townOf(1), 2);
        Due.is("strength(1)", x.strength(1), 2);
        Due.is("townAfter(1, 0)", x.townAfter(1, 0), 1);
        Due.is("appeal()", x.appeal(), 0);
        Due.is("townOf(1), lost again", x.townOf(1), -1);
        Due.is("strength(1), lost again", x.strength(1), 0);
    }

    private static void promise8LaterRulingsOfOtherTurnsStay() {
        WarTable x = paved(4);
        x.addUnit(0, 0, 5);
        x.order(0, 1);
        x.play(0);
        x.order(0, 2);
        x.play(0);
        x.rule(1, 2);
        x.rule(0, 1);
        Due.is("weather(1) stays ruled", x.weather(1), 2);
        Due.is("weather(0)", x.weather(0), 1);
        Due.is("townOf(0)", x.townOf(0), 1);
    }

    private static void promise8RulesTheFirstOfTwentyTurns() {
        WarTable x = paved(4);
        x.addUnit(0, 0, 5);
        x.addUnit(0, 1, 5);
        x.addUnit(0, 3, 5);
        x.order(0, 1);
        x.order(1, 2);
        x.play(0);
        for (int turn = 1; turn < 19; turn++) {
            x.play(turn % 3);
        }
        x.order(2, 2);
        x.play(0);
        Due.is("rule(0, 2) after 20 turns", x.rule(0, 2), 2);
        Due.is("rule(19, 2) after 20 turns", x.rule(19, 2), 1);
        Due.is("townOf(0)", x.townOf(0), 0);
        Due.is("townOf(1)", x.townOf(1), 1);
        Due.is("townOf(2)", x.townOf(2), 3);
        Due.is("appeal()", x.appeal(), 19);
        Due.is("appeal() again", x.appeal(), 0);
        Due.is("townOf(0) then", x.townOf(0), 1);
        Due.is("townOf(2) then", x.townOf(2), 2);
    }

    private static void promise8RefusesWrongTurnFirst() {
        WarTable x = new WarTable();
        Due.refuses("rule(0, 0) ahead of turn 0", INDEX, () -> x.rule(0, 0));
        x.play(0);
        x.play(0);
        int[] wrong = {-1, 2, 19, 20, Integer.MIN_VALUE, Integer.MAX_VALUE};
        for (int turn : wrong) {
            Due.refuses("rule(" + turn + ", 0)", INDEX, () -> x.rule(turn, 0));
            Due.refuses("rule(" + turn + ", 3)", INDEX, () -> x.rule(turn, 3));
        }
        Due.is("rulings() after refused ones", x.rulings(), 0);
    }

    private static void promise8RefusesWrongWeather() {
        WarTable x = new WarTable();
        x.play(1);
        int[] wrong = {-1, 3, Integer.MIN_VALUE, Integer.MAX_VALUE};
        for (int weather : wrong) {
            Due.refuses("rule(0, " + weather + ")", ARGUMENT, () -> x.rule(0, weather));
        }
        Due.is("rulings() after refused ones", x.rulings(), 0);
        Due.is("weather(0) after refused ones", x.weather(0), 1);
        Due.refuses("appeal() after refused ones", STATE, () -> x.appeal());
    }

    private static void promise9TakesRulingsBackFromTheLast() {
        WarTable x = paved(2);
        x.addUnit(0, 0, 5);
        for (int turn = 0; turn < 5; turn++) {
            x.play(0);
        }
        x.rule(3, 1);
        x.rule(1, 2);
        x.rule(4, 1);
        Due.is("appeal() of the third", x.appeal(), 4);
        Due.is("rulings() then", x.rulings(), 2);
        x.rule(2, 1);
        Due.is("appeal() of the fourth", x.appeal(), 2);
        Due.is("appeal() of the second", x.appeal(), 1);
        Due.is("weather(1)", x.weather(1), 0);
        Due.is("weather(3)", x.weather(3), 1);
        Due.is("appeal() of the first", x.appeal(), 3);
        Due.is("weather(3) then", x.weather(3), 0);
        Due.is("rulings() at last", x.rulings(), 0);
        Due.refuses("appeal() of none", STATE, () -> x.appeal());
    }

    private static void promise9GivesBackTheWeatherAheadOfTheRuling() {
        WarTable x = paved(2);
        x.addUnit(0, 0, 5);
        x.play(2);
        x.rule(0, 1);
        x.rule(0, 0);
        x.rule(0, 0);
        Due.is("weather(0) ruled", x.weather(0), 0);
        x.appeal();
        Due.is("weather(0) ahead of the third ruling", x.weather(0), 0);
        x.appeal();
        Due.is("weather(0) ahead of the second ruling", x.weather(0), 1);
        x.appeal();
        Due.is("weather(0) ahead of the first ruling", x.weather(0), 2);
    }

    private static void promise9PlaysTurnsBehindTheRulingAgain() {
        WarTable x = paved(4);
        x.addUnit(0, 0, 5);
        x.order(0, 1);
        x.play(0);
        x.rule(0, 2);
        x.order(0, 2);
        x.play(0);
        Due.is("townOf(0): there is no road 0-2", x.townOf(0), 0);
        Due.is("appeal()", x.appeal(), 0);
        Due.is("townOf(0): the later turn is played again too", x.townOf(0), 2);
        Due.is("townAfter(0, 0)", x.townAfter(0, 0), 1);
    }

    private static void promise9RefusesWithoutRuling() {
        WarTable x = paved(2);
        Due.refuses("appeal() ahead of turn 0", STATE, () -> x.appeal());
        x.addUnit(0, 0, 5);
        x.order(0, 1);
        x.play(0);
        Due.refuses("appeal() without ruling", STATE, () -> x.appeal());
        Due.is("townOf(0) stays", x.townOf(0), 1);
    }

    private static void promise9StandsForAsManyRulingsAsThereAreCalls() {
        WarTable x = new WarTable();
        x.play(0);
        for (int ruling = 0; ruling < 255; ruling++) {
            x.rule(0, ruling % 3);
        }
        Due.is("rulings()", x.rulings(), 255);
        for (int ruling = 254; ruling >= 1; ruling--) {
            x.appeal();
        }
        // That was the 511th call.
        Due.is("rulings() at the 512th call", x.rulings(), 1);

        WarTable y = new WarTable();
        y.play(0);
        for (int ruling = 0; ruling < 510; ruling++) {
            y.rule(0, ruling % 3);
        }
        Due.is("rulings() after 510 of them", y.rulings(), 510);
    }
}
