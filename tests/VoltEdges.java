import java.util.function.Supplier;

/** Sentences of volts and transformers, and of promises 23 to 28. */
final class VoltEdges extends Edges {
    private VoltEdges() {
    }

    static void all() {
        terms();
        termsOfWear();
        volts();
        transformers();
        loading();
        rows();
    }

    /** A row of tubes of argon, each of four units and 410 volts, that hang on sign 0. */
    private static Neonworks rowOf(int tubes, int load) {
        Neonworks shop = new Neonworks();
        shop.transformer(load);
        shop.sign(100, 100);
        for (int i = 0; i < tubes; i++) {
            Make.bright(shop, i, 'a');
            shop.load(0, i);
            shop.hang(0, i, 'A');
        }
        return shop;
    }

    private static int voltsOf(int width, int units, char gas, int years) {
        Neonworks shop = new Neonworks();
        Make.tube(shop, width, "e".repeat(units), 0, 0, 0);
        shop.pump(0, 20);
        shop.fill(0, gas, 50);
        if (years > 0) {
            shop.pass(years);
        }
        return shop.volts(0);
    }

    private static void terms() {
        of(0);
        says("A tube takes 250 volts for its ends, and 40, 32, 28 or 24 by its width times its units, for neon this sum "
                + "times 13 / 10, cut, and 5 for each unit of its air that leaked in", () -> {
            same("argon of 8", voltsOf(8, 7, 'a', 0), 250 + 280);
            same("argon of 10", voltsOf(10, 7, 'a', 0), 250 + 224);
            same("argon of 12", voltsOf(12, 7, 'a', 0), 250 + 196);
            same("argon of 15", voltsOf(15, 7, 'a', 0), 250 + 168);
            same("neon of 8", voltsOf(8, 7, 'n', 0), 250 + 364);
            same("neon of 10, cut", voltsOf(10, 7, 'n', 0), 250 + 291);
            same("neon of 12, cut", voltsOf(12, 7, 'n', 0), 250 + 254);
            same("neon of 15, cut", voltsOf(15, 7, 'n', 0), 250 + 218);
            same("the least", voltsOf(15, 1, 'a', 0), 250 + 24);
            same("the most without air", voltsOf(8, 60, 'n', 0), 250 + 3120);
            same("3 leaked into neon, and are not neon", voltsOf(8, 7, 'n', 3), 250 + 364 + 15);
            same("3 leaked into argon", voltsOf(8, 7, 'a', 3), 250 + 280 + 15);
        });
        says("A transformer has a load of volts, and a row of tubes, which come to one end of it behind each other", () -> {
            Neonworks shop = rowOf(3, 1234);
            same("its load", shop.loadOf(0), 1234);
            same("its row", shop.rowVolts(0), 3 * 410);
            Make.tube(shop, 8, "e", 0, 50, 0);
            same("behind the others", shop.load(0, 3), 4);
        });
        says("all of them light if each lights, and their volts together are at most its load, less 100 for each tube of "
                + "the row that hangs on a sign that is wet", () -> {
            same("just its load", rowOf(2, 820).rowLights(0), true);
            same("one volt less", rowOf(2, 819).rowLights(0), false);
            same("wet, 200 more", wetRow(2, 1020).rowLights(0), true);
            same("wet, 199 more", wetRow(2, 1019).rowLights(0), false);
            same("three wet, 300 more", wetRow(3, 1530).rowLights(0), true);
            same("three wet, 299 more", wetRow(3, 1529).rowLights(0), false);
            Neonworks shop = rowOf(2, 15000);
            Make.tube(shop, 8, "e", 0, 50, 0);
            shop.load(0, 2);
            same("one of them does not light", shop.rowLights(0), false);
            Neonworks far = wetRow(2, 820);
            far.sign(10, 10);
            same("of a sign that is wet", far.rowLights(0), false);
            far.wet(0, false);
            far.wet(1, true);
            same("another sign is wet", far.rowLights(0), true);
        });
    }

    private static Neonworks wetRow(int tubes, int load) {
        Neonworks shop = rowOf(tubes, load);
        shop.wet(0, true);
        return shop;
    }

    private static void termsOfWear() {
        of(0);
        says("As years go by at once, one whose row takes less than half of its load ahead of them loses 50 of it for each "
                + "of them, down to 0", () -> {
            same("just half", loadBehind(rowOf(2, 1640), 1), 1640);
            same("half, by one volt less", loadBehind(rowOf(2, 1641), 1), 1591);
            same("two volts less", loadBehind(rowOf(2, 1642), 1), 1592);
            same("for each year", loadBehind(rowOf(2, 15000), 50), 12500);
            same("half is passed on the way", loadBehind(rowOf(2, 1650), 10), 1150);
            same("without a row", loadBehind(rowOf(0, 15000), 3), 14850);
            same("just down to 0", loadBehind(rowOf(0, 100), 2), 0);
            same("no further than 0", loadBehind(rowOf(0, 140), 3), 0);
            Neonworks shop = rowOf(0, 101);
            same("a rest of 1", loadBehind(shop, 2), 1);
            same("0 behind the next one", loadBehind(shop, 1), 0);
            same("0 stays", loadBehind(shop, 50), 0);
        });
    }

    private static int loadBehind(Neonworks shop, int years) {
        shop.pass(years);
        return shop.loadOf(0);
    }

    private static void volts() {
        of(23);
        says("`tube`: the number of the tube", () -> takesNumbersOf(1, Neonworks::volts));
        says("Returns the volts of a tube.", () -> same("of neon that leaked by 2", Make.shop().volts(0), 250 + 208 + 10));
        says("Returns the volts.", () -> {
            same("of one unit", voltsOf(8, 1, 'a', 0), 290);
            same("of 60", voltsOf(8, 60, 'a', 0), 2650);
            same("blacked units take volts, too", blackedVolts(), 410);
        });
        says("Throws `IndexOutOfBoundsException` if there is no such tube", () -> refusesNumbersFrom(3, Neonworks::volts));
        says("Throws `UnsupportedOperationException` if it is not filled", () -> {
            refused("pumped", REFUSED, Make::shop, shop -> shop.volts(1));
            refused("bent", REFUSED, Make::shop, shop -> shop.volts(2));
            refused("burned out", REFUSED, VoltEdges::burned, shop -> shop.volts(0));
            Neonworks shop = burned();
            shop.fill(0, 'a', 99);
            same("filled, and does not light", shop.volts(0), 410);
        });
    }

    private static int blackedVolts() {
        Neonworks shop = rowOf(1, 1000);
        shop.black(0, 0, 4);
        return shop.volts(0);
    }

    private static Neonworks burned() {
        Neonworks shop = new Neonworks();
        Make.tube(shop, 8, "eeee", 0, 0, 0);
        shop.pump(0, 20);
        shop.burn(0, 200);
        return shop;
    }

    private static Neonworks fullOfTransformers() {
        Neonworks shop = new Neonworks();
        for (int i = 0; i < 8; i++) {
            shop.transformer(1000 + i);
        }
        return shop;
    }

    private static void transformers() {
        of(24);
        says("`load`: 100 to 15000", () -> takes(100, 15000, Make::shop, Neonworks::transformer));
        says("Returns the number of the transformer.", () -> {
            Neonworks shop = new Neonworks();
            for (int i = 0; i < 8; i++) {
                same("number", shop.transformer(100 + i), i);
                same("its load", shop.loadOf(i), 100 + i);
            }
        });
        says("Throws `IllegalArgumentException` if a number is out of range", () -> {
            refuses(100, 15000, Make::shop, Neonworks::transformer);
            refuses(100, 15000, VoltEdges::fullOfTransformers, Neonworks::transformer);
        });
        says("Throws `IllegalStateException` if there are 8", () ->
                refused("the ninth", FULL, VoltEdges::fullOfTransformers, shop -> shop.transformer(1000)));
        of(26);
        says("`transformer`: the number of the transformer", () -> takesNumbersOf(2, Neonworks::loadOf));
        says("Returns the volts.", () -> {
            same("new", rowOf(0, 777).loadOf(0), 777);
            same("worn", loadBehind(rowOf(0, 777), 1), 727);
            same("wet, it is as it was", wetRow(2, 820).loadOf(0), 820);
        });
        says("Throws `IndexOutOfBoundsException` if there is no such transformer", () ->
                refusesNumbersFrom(2, Neonworks::loadOf));
    }

    private static void loading() {
        of(25);
        says("Puts a tube behind the row of a transformer.", () -> {
            Neonworks shop = Make.shop();
            shop.load(1, 1);
            same("the other row is as it was", shop.load(0, 2), 2);
        });
        says("`transformer`: the number of the transformer", () -> takesNumbersOf(2, (shop, number) -> shop.load(number, 1)));
        says("`tube`: the number of the tube", () -> takesNumbersOf(3, (shop, tube) -> tube == 0 ? 0 : shop.load(1, tube)));
        says("Returns how many the row has.", () -> {
            Neonworks shop = new Neonworks();
            shop.transformer(100);
            for (int i = 0; i < 20; i++) {
                Make.tube(shop, 8, "e", 0, i, 0);
                same("tubes", shop.load(0, i), i + 1);
            }
        });
        says("Throws `IndexOutOfBoundsException` if there is no such transformer, or tube", () -> {
            refusesNumbersFrom(2, (shop, number) -> shop.load(number, 1));
            refusesNumbersFrom(2, (shop, number) -> shop.load(number, 0));
            refusesNumbersFrom(3, (shop, tube) -> shop.load(1, tube));
        });
        says("Throws `UnsupportedOperationException` if the tube is in a row", () -> {
            refused("the same row", REFUSED, Make::shop, shop -> shop.load(0, 0));
            refused("another row", REFUSED, Make::shop, shop -> shop.load(1, 0));
            Supplier<Neonworks> spared = () -> rowOf(1, 1000);
            refused("a spare is in the row, too", REFUSED, () -> {
                Neonworks shop = spared.get();
                shop.spare(0);
                return shop;
            }, shop -> shop.load(0, 0));
        });
    }

    private static void rows() {
        of(27);
        says("`transformer`: the number of the transformer", () -> takesNumbersOf(2, Neonworks::rowVolts));
        says("Returns the sum, of filled tubes.", () -> {
            same("without tubes", rowOf(0, 100).rowVolts(0), 0);
            same("of three", rowOf(3, 100).rowVolts(0), 3 * 410);
            Neonworks shop = rowOf(2, 100);
            Make.tube(shop, 8, "e", 0, 50, 0);
            shop.load(0, 2);
            same("one is not filled", shop.rowVolts(0), 2 * 410);
            shop.fill(2, 'a', 99);
            same("it is filled, and does not light", shop.rowVolts(0), 2 * 410 + 290);
            same("wet ones take no more", wetRow(2, 100).rowVolts(0), 2 * 410);
        });
        says("Throws `IndexOutOfBoundsException` if there is no such transformer", () ->
                refusesNumbersFrom(2, Neonworks::rowVolts));
        of(28);
        says("`transformer`: the number of the transformer", () -> takesNumbersOf(2, Neonworks::rowLights));
        says("Returns whether all of it does; without tubes it does not.", () -> {
            same("without tubes", rowOf(0, 15000).rowLights(0), false);
            same("one", rowOf(1, 15000).rowLights(0), true);
            same("too many volts", rowOf(1, 409).rowLights(0), false);
            Neonworks shop = rowOf(1, 15000);
            shop.spare(0);
            same("its one tube is not filled", shop.rowLights(0), false);
        });
        says("Throws `IndexOutOfBoundsException` if there is no such transformer", () ->
                refusesNumbersFrom(2, Neonworks::rowLights));
    }
}
