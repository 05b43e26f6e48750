import java.util.Random;

/**
 * Calls with any arguments, far behind the 512th too: what comes out is an answer or an exception
 * that the program itself throws, never one of the machine's, and never a call without end.
 */
public final class WildCallsTest {

    private static final int[] EDGES = {
        Integer.MIN_VALUE, Integer.MIN_VALUE + 1, -33, -32, -31, -12, -10, -2, -1, 0, 1, 2, 3, 4, 9, 10, 11, 12, 13,
        14, 15, 16, 19, 20, 21, 22, 31, 32, 33, 251, 252, 264, 511, 512, 513, Integer.MAX_VALUE - 1, Integer.MAX_VALUE,
    };

    public static void main(String[] args) {
        for (int seed = 0; seed < 40; seed++) {
            Random random = new Random(seed);
            WarTable x = new WarTable();
            for (int call = 0; call < 3000; call++) {
                int a = number(random);
                int b = number(random);
                int c = number(random);
                int kind = call < 300 ? random.nextInt(4) : random.nextInt(16);
                outcome("seed " + seed + ", call " + call, () -> wild(x, kind, a, b, c));
            }
        }
        rulingsBehindTheLimit();
        Due.end();
    }

    private static int number(Random random) {
        return random.nextInt(3) == 0 ? EDGES[random.nextInt(EDGES.length)] : random.nextInt(10);
    }

    private static int wild(WarTable x, int kind, int a, int b, int c) {
        switch (kind) {
            case 0: return x.addRoad(a, b, c % 2 == 0);
            case 1: return x.addUnit(a & 1, b, c);
            case 2: return x.addUnit(a, b, c);
            case 3: return x.setDepot(a, b);
            case 4: return x.order(a, b);
            case 5: return x.play(a);
            case 6: return x.played();
            case 7: return x.rule(a, b % 4);
            case 8: return x.appeal();
            case 9: return x.townOf(a);
            case 10: return x.strength(a);
            case 11: return x.supply(a, b);
            case 12: return x.townAfter(a, b);
            case 13: return x.reported(a & 1, b) + x.weather(a);
            case 14: return x.force(a);
            default: return x.rulings() + x.rule(a, b);
        }
    }

    private static void outcome(String where, Due.Call call) {
        String strange = "";
        try {
            call.answer();
        } catch (RuntimeException thrown) {
            Class<?> kind = thrown.getClass();
            boolean isDocumented = kind == IllegalArgumentException.class || kind == IllegalStateException.class
                    || kind == IndexOutOfBoundsException.class;
            if (!isDocumented || !thrown.getStackTrace()[0].getClassName().equals("WarTable")) {
                strange = thrown.toString();
            }
        }
        Due.is(where + " exceptions that are not the program's own (" + strange + ")", strange.isEmpty() ? 0 : 1, 0);
    }

    private static void rulingsBehindTheLimit() {
        WarTable x = new WarTable();
        x.addUnit(0, 0, 9);
        x.play(0);
        for (int ruling = 0; ruling < 2000; ruling++) {
            outcome("ruling " + ruling, () -> x.rule(0, 1));
        }
        for (int appeal = 0; appeal < 2000; appeal++) {
            outcome("appeal " + appeal, () -> x.appeal());
        }
    }
}
