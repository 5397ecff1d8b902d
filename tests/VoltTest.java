/** Promises 23 to 28: volts of tubes, transformers, rows, and how loads wear. */
public final class VoltTest {
    private static final Class<IndexOutOfBoundsException> NONE = IndexOutOfBoundsException.class;
    private static final Class<IllegalArgumentException> WRONG = IllegalArgumentException.class;
    private static final Class<UnsupportedOperationException> REFUSED = UnsupportedOperationException.class;

    public static void main(String[] args) {
        volts();
        transformers();
        rows();
        lightingRows();
        wetRows();
        wornLoads();
        Check.end(VoltTest.class);
    }

    private static void volts() {
        int[] widths = {8, 10, 12, 15};
        int[] each = {40, 32, 28, 24};
        for (int i = 0; i < 4; i++) {
            for (int units = 1; units <= 60; units += 7) {
                Neonworks shop = new Neonworks();
                Make.tube(shop, widths[i], "e".repeat(units), 0, 0, 0);
                Make.tube(shop, widths[i], "e".repeat(units), 0, 1, 0);
                Check.fails("volts of an empty tube", REFUSED, () -> shop.volts(0));
                shop.fill(0, 'n', 99);
                shop.fill(1, 'a', 99);
                Check.same("volts of neon", shop.volts(0), 250 + each[i] * units * 13 / 10);
                Check.same("volts of argon", shop.volts(1), 250 + each[i] * units);
                shop.pass(2);
                Check.same("volts of leaked neon", shop.volts(0), 250 + each[i] * units * 13 / 10 + 100010);
                Check.same("volts of leaked argon", shop.volts(1), 250 + each[i] * units + 100010);
            }
        }
        Neonworks shop = Make.typed("ee");
        shop.tube(8, 0, 0, 0);
        Check.fails("volts of no tube", NONE, () -> shop.volts(1));
        Check.fails("volts of no tube", NONE, () -> shop.volts(-1));
        shop.pump(0, 20);
        shop.burn(0, 200);
        Check.fails("volts of a burned tube", REFUSED, () -> shop.volts(0));
    }

    private static void transformers() {
        Neonworks shop = new Neonworks();
        for (int load : new int[] {99, 15001, -100, Integer.MAX_VALUE}) {
            Check.fails("transformer " + load, WRONG, () -> shop.transformer(load));
        }
        for (int i = 0; i < 8; i++) {
            Check.same("transformer", shop.transformer(i % 2 == 0 ? 100 : 15000), i);
        }
        Check.fails("a ninth", IllegalStateException.class, () -> shop.transformer(100));
        Check.fails("a wrong ninth", WRONG, () -> shop.transformer(99));
        Check.same("loads", shop.loadOf(6) + " " + shop.loadOf(7), "100 15000");
        for (int number : new int[] {-1, 8}) {
            Check.fails("loadOf " + number, NONE, () -> shop.loadOf(number));
            Check.fails("rowVolts " + number, NONE, () -> shop.rowVolts(number));
            Check.fails("rowLights " + number, NONE, () -> shop.rowLights(number));
        }
    }

    private static void rows() {
        Neonworks shop = new Neonworks();
        shop.transformer(1000);
        shop.transformer(1000);
        for (int i = 0; i < 4; i++) {
            Make.tube(shop, 8, "eeee", 0, i, 0);
        }
        Check.same("load", shop.load(0, 2), 1);
        Check.same("load", shop.load(0, 0), 2);
        Check.same("load", shop.load(1, 1), 1);
        Check.fails("load again", REFUSED, () -> shop.load(0, 2));
        Check.fails("load elsewhere", REFUSED, () -> shop.load(1, 2));
        Check.fails("load no tube", NONE, () -> shop.load(0, 4));
        Check.fails("load no tube", NONE, () -> shop.load(0, -1));
        Check.fails("load on no transformer", NONE, () -> shop.load(2, 2));
        Check.fails("load on no transformer", NONE, () -> shop.load(-1, 3));
        Check.same("volts of empty tubes", shop.rowVolts(0), 0);
        shop.fill(0, 'a', 16);
        Check.same("volts of the filled ones", shop.rowVolts(0), 410);
        shop.fill(2, 'n', 16);
        Check.same("volts of both", shop.rowVolts(0), 410 + 458);
        Check.same("volts of the other row", shop.rowVolts(1), 0);
    }

    private static void lightingRows() {
        Neonworks shop = new Neonworks();
        shop.transformer(820);
        Check.same("a row without tubes", shop.rowLights(0), false);
        for (int i = 0; i < 2; i++) {
            Make.bright(shop, i, 'a');
            shop.load(0, i);
            Check.same("a row within its load", shop.rowLights(0), true);
        }
        Make.tube(shop, 8, "ee", 0, 50, 0);
        shop.load(0, 2);
        Check.same("a row with an empty tube", shop.rowLights(0), false);
        shop.fill(2, 'a', 16);
        Check.same("a row with a tube that was not burned out", shop.rowLights(0), false);
        for (int load : new int[] {819, 820}) {
            Neonworks edge = new Neonworks();
            edge.transformer(load);
            for (int i = 0; i < 2; i++) {
                Make.bright(edge, i, 'a');
                edge.load(0, i);
            }
            Check.same("a row of 820 at " + load, edge.rowLights(0), load == 820);
        }
    }

    private static void wetRows() {
        for (int load : new int[] {1019, 1020}) {
            Neonworks shop = new Neonworks();
            shop.transformer(load);
            shop.sign(100, 100);
            shop.sign(100, 100);
            for (int i = 0; i < 3; i++) {
                Make.bright(shop, i, 'a');
            }
            shop.load(0, 0);
            shop.load(0, 1);
            shop.hang(0, 0, 'A');
            shop.hang(0, 1, 'B');
            shop.hang(1, 2, 'C');
            shop.wet(1, true);
            Check.same("another sign is wet", shop.rowLights(0), true);
            shop.wet(0, true);
            Check.same("two tubes are wet at " + load, shop.rowLights(0), load == 1020);
            Check.same("the load is as it was", shop.loadOf(0), load);
            shop.wet(0, false);
            Check.same("dry again", shop.rowLights(0), true);
        }
        Neonworks shop = new Neonworks();
        shop.transformer(15000);
        shop.sign(100, 100);
        Make.bright(shop, 0, 'a');
        shop.load(0, 0);
        shop.wet(0, true);
        Check.same("a tube that hangs nowhere stays dry", shop.rowLights(0), true);
    }

    private static void wornLoads() {
        // 820 volts: half of 1640 and more, less than half of 1641.
        for (int load : new int[] {1640, 1641}) {
            Neonworks shop = new Neonworks();
            shop.transformer(load);
            shop.transformer(100);
            for (int i = 0; i < 2; i++) {
                Make.bright(shop, i, 'a');
                shop.load(0, i);
            }
            shop.pass(3);
            Check.same("load " + load, shop.loadOf(0), load == 1641 ? 1491 : 1640);
            Check.same("an empty row loses all", shop.loadOf(1), 0);
            shop.pass(1);
            // The tubes leaked 3 each by then, so the row took 850, at least half of either load.
            Check.same("load " + load, shop.loadOf(0), load == 1641 ? 1491 : 1640);
            Check.same("volts, with 4 leaked into each", shop.rowVolts(0), 860);
        }
        Neonworks shop = new Neonworks();
        shop.transformer(15000);
        shop.pass(50);
        Check.same("50 years at once", shop.loadOf(0), 12500);
        // What the row takes ahead of the years counts for all of them.
        Make.tube(shop, 8, "eeee", 0, 0, 0);
        shop.fill(0, 'a', 16);
        shop.load(0, 0);
        shop.pass(50);
        Check.same("50 years more", shop.loadOf(0), 10000);
        shop.pass(1);
        Check.same("a row that takes much by now", shop.loadOf(0), 10000);
    }
}
