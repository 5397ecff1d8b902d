import java.util.function.Supplier;

/** Sentences of gas, coats, colours and pumping, and of promises 15 to 22. */
final class GasEdges extends Edges {
    private GasEdges() {
    }

    static void all() {
        termsOfColours();
        termsOfPumping();
        termsOfLeaks();
        coating();
        pumping();
        burning();
        filling();
        looking();
        lighting();
        passing();
        leaking();
    }

    /** A tube 0 of a width, four units long, pumped for some minutes. */
    private static Neonworks pumped(int width, int minutes) {
        Neonworks shop = new Neonworks();
        Make.tube(shop, width, "eeee", 0, 0, 0);
        if (minutes > 0) {
            shop.pump(0, minutes);
        }
        return shop;
    }

    private static Neonworks burned() {
        Neonworks shop = pumped(8, 20);
        shop.burn(0, 200);
        return shop;
    }

    private static Neonworks filled(char gas, int pressure) {
        Neonworks shop = burned();
        shop.fill(0, gas, pressure);
        return shop;
    }

    private static Neonworks coated(char gas, int coat) {
        Neonworks shop = burned();
        shop.setCoat(0, coat);
        shop.fill(0, gas, 16);
        return shop;
    }

    /** As filled, and leaked by 1 in each year. */
    private static Neonworks leakedBy(int years) {
        Neonworks shop = filled('n', 16);
        shop.pass(years);
        return shop;
    }

    private static Supplier<Neonworks> maker(int minutes) {
        return () -> pumped(8, minutes);
    }

    private static Neonworks filledShop() {
        Neonworks shop = Make.shop();
        shop.fill(1, 'a', 14);
        return shop;
    }

    private static String colour(Neonworks shop, boolean isDay) {
        return shop.light(0, 0, isDay, 'r') + " " + shop.light(0, 0, isDay, 'g') + " " + shop.light(0, 0, isDay, 'b');
    }

    private static void termsOfColours() {
        of(0);
        says("Gases: 'n' neon, 'a' argon", () -> {
            same("neon is red", colour(filled('n', 16), false), "255 60 20");
            same("argon is blue", colour(filled('a', 16), false), "60 100 255");
        });
        says("coats: 0 none, 1 white, 2 green, 3 pink, 4 ruby glass, 5 blue glass", () -> {
            String[] due = {"60 100 255", "230 230 230", "60 255 90", "255 120 170", "60 0 0", "0 0 255"};
            for (int coat = 0; coat < 6; coat++) {
                same("coat " + coat, colour(coated('a', coat), false), due[coat]);
            }
        });
        says("The light of a unit is a red, a green and a blue: of neon 255 60 20, with white 227 130 110, with ruby glass "
                + "255 0 0, with blue glass 0 0 20, with other coats as without", () -> {
            String[] due = {"255 60 20", "227 130 110", "255 60 20", "255 60 20", "255 0 0", "0 0 20"};
            for (int coat = 0; coat < 6; coat++) {
                same("neon, coat " + coat, colour(coated('n', coat), false), due[coat]);
            }
        });
        says("of argon 60 100 255, with white 230 230 230, with green 60 255 90, with pink 255 120 170, with ruby glass "
                + "60 0 0, with blue glass 0 0 255", () -> {
            same("argon", colour(coated('a', 0), false), "60 100 255");
            same("white argon", colour(coated('a', 1), false), "230 230 230");
            same("green argon", colour(coated('a', 2), false), "60 255 90");
            same("pink argon", colour(coated('a', 3), false), "255 120 170");
            same("argon in ruby glass", colour(coated('a', 4), false), "60 0 0");
            same("argon in blue glass", colour(coated('a', 5), false), "0 0 255");
        });
        says("By day, each part is divided by 3", () -> {
            same("neon", colour(coated('n', 0), true), "85 20 6");
            same("white neon", colour(coated('n', 1), true), "75 43 36");
            same("argon", colour(coated('a', 0), true), "20 33 85");
            same("white argon", colour(coated('a', 1), true), "76 76 76");
        });
        says("Blacked units give none", () -> {
            Neonworks shop = filled('n', 16);
            shop.black(0, 0, 1);
            same("the blacked one", colour(shop, false), "0 0 0");
            same("the next one", shop.light(0, 1, false, 'r'), 255);
        });
    }

    private static void termsOfPumping() {
        of(0);
        says("A tube is pumped for some minutes: the rest of its air is 100000, halved, cut, in each minute, and one more "
                + "time for each 10 minutes in all", () -> {
            int[] due = {50000, 25000, 12500, 6250, 3125, 1562, 781, 390, 195, 48, 24, 12, 6, 3, 1, 0};
            for (int minutes = 1; minutes <= 16; minutes++) {
                same("in " + minutes, pumped(8, 0).pump(0, minutes), due[minutes - 1]);
            }
            Neonworks shop = pumped(8, 0);
            for (int minutes = 1; minutes <= 16; minutes++) {
                same("one by one, " + minutes, shop.pump(0, 1), due[minutes - 1]);
            }
            same("5 and 5 are 10 in all", pumped(8, 5).pump(0, 5), 48);
            same("nothing is left", pumped(8, 0).pump(0, 99), 0);
        });
        says("burned out at a heat of 200 or more, after it was pumped to a rest of at most 50", () -> {
            same("a heat of 199", pumped(8, 10).burn(0, 199), false);
            same("a heat of 200", pumped(8, 10).burn(0, 200), true);
            same("a heat of 400", pumped(8, 10).burn(0, 400), true);
            Check.fails("a rest of 195", REFUSED, () -> pumped(8, 9).burn(0, 200));
            same("a rest of 48", pumped(8, 10).burn(0, 200), true);
        });
        says("then filled with a gas to a pressure: 100 divided by the width, and 4 more, is the right one", () -> {
            same("of 8", pumped(8, 20).fill(0, 'n', 16), 0);
            same("of 10", pumped(10, 20).fill(0, 'a', 14), 0);
            same("of 12, cut", pumped(12, 20).fill(0, 'n', 12), 0);
            same("of 15, cut", pumped(15, 20).fill(0, 'a', 10), 0);
        });
        says("A tube lights if it was burned out, filled to within 3 of the right pressure, and what leaked in is less "
                + "than 40", () -> {
            for (int pressure = 1; pressure <= 99; pressure++) {
                boolean isDue = pressure >= 13 && pressure <= 19;
                same("pressure " + pressure, filled('n', pressure).stateOf(0), isDue ? 'l' : 'x');
            }
            Neonworks cold = pumped(8, 20);
            cold.fill(0, 'n', 16);
            same("not burned out", cold.stateOf(0) + " " + colour(cold, false), "x 0 0 0");
            same("39 leaked in", colour(leakedBy(39), false), "255 60 20");
            same("40 leaked in", colour(leakedBy(40), false), "0 0 0");
        });
    }

    private static void termsOfLeaks() {
        of(0);
        says("In a year, as much leaks into a filled tube as its rest of air divided by 10, cut, and 1, and, if it can be "
                + "bent, with a heat above 60, 3 more", () -> {
            int[] minutes = {0, 9, 10, 12, 13, 20};
            int[] due = {10001, 20, 5, 2, 1, 1};
            for (int i = 0; i < minutes.length; i++) {
                same("pumped for " + minutes[i], leakOfYear("eeee", minutes[i], true), due[i]);
                same("pumped for " + minutes[i] + ", not filled", leakOfYear("eeee", minutes[i], false), 0);
            }
            same("a heat of 60", leakOfYear("enenene", 20, true), 1);
            same("a heat of 70", leakOfYear("enenenen", 20, true), 4);
            same("a heat of 60 by 5 more", leakOfYear(Make.runs("e5n3w3s2e1n1"), 20, true), 1);
            // Its order is 0 1 2 3 5 4: of six bends one was made behind no neighbour.
            same("a heat of 65", leakOfYear(Make.runs("e1n1e3n3w3s2w1"), 20, true), 4);
        });
        says("It is pale from 20 on", () -> {
            same("19", leakedBy(19).stateOf(0), 'l');
            same("20", leakedBy(20).stateOf(0), 'f');
            same("39", leakedBy(39).stateOf(0), 'f');
        });
    }

    private static int leakOfYear(String letters, int minutes, boolean isFilled) {
        Neonworks shop = new Neonworks();
        Make.tube(shop, 8, letters, 0, 0, 0);
        if (minutes > 0) {
            shop.pump(0, minutes);
        }
        if (isFilled) {
            shop.fill(0, 'n', 16);
        }
        shop.pass(1);
        return shop.leaked(0);
    }

    private static void coating() {
        of(15);
        says("`tube`: the number of the tube", () -> takesNumbersOf(3, (shop, tube) -> shop.setCoat(tube, 1)));
        says("`coat`: 0 to 5", () -> takes(0, 5, Make::shop, (shop, coat) -> shop.setCoat(1, coat)));
        says("Returns the one before, 0 at first.", () -> {
            Neonworks shop = pumped(8, 0);
            same("at first", shop.setCoat(0, 5), 0);
            same("then", shop.setCoat(0, 5), 5);
            same("then", shop.setCoat(0, 0), 5);
            same("then", shop.setCoat(0, 1), 0);
        });
        says("Throws `IndexOutOfBoundsException` if there is no such tube", () ->
                refusesNumbersFrom(3, (shop, tube) -> shop.setCoat(tube, 6)));
        says("Throws `IllegalArgumentException` if a number is out of range", () -> {
            refuses(0, 5, Make::shop, (shop, coat) -> shop.setCoat(1, coat));
            refuses(0, 5, GasEdges::filledShop, (shop, coat) -> shop.setCoat(1, coat));
        });
        says("Throws `UnsupportedOperationException` if it is filled", () -> {
            refused("filled", REFUSED, GasEdges::filledShop, shop -> shop.setCoat(1, 0));
            refused("filled, the same coat", REFUSED, GasEdges::filledShop, shop -> shop.setCoat(1, 3));
            same("burned out", burned().setCoat(0, 4), 0);
        });
    }

    private static void pumping() {
        of(16);
        says("`tube`: the number of the tube", () -> takesNumbersOf(3, (shop, tube) -> {
            shop.spare(tube);
            return shop.pump(tube, 1);
        }));
        says("`minutes`: 1 to 99", () -> takes(1, 99, Make::shop, (shop, minutes) -> shop.pump(1, minutes)));
        says("Returns the rest of its air.", () -> {
            same("behind 1", pumped(8, 0).pump(0, 1), 50000);
            same("behind 9", pumped(8, 8).pump(0, 1), 195);
            same("behind 10", pumped(8, 9).pump(0, 1), 48);
            same("behind 99 and 99", pumped(8, 99).pump(0, 99), 0);
        });
        says("Throws `IndexOutOfBoundsException` if there is no such tube", () ->
                refusesNumbersFrom(3, (shop, tube) -> shop.pump(tube, 0)));
        says("Throws `IllegalArgumentException` if a number is out of range", () -> {
            refuses(1, 99, Make::shop, (shop, minutes) -> shop.pump(1, minutes));
            refuses(1, 99, GasEdges::filledShop, (shop, minutes) -> shop.pump(1, minutes));
        });
        says("Throws `UnsupportedOperationException` if it is filled", () -> {
            refused("filled", REFUSED, GasEdges::filledShop, shop -> shop.pump(1, 1));
            same("burned out", burned().pump(0, 1), 0);
        });
    }

    private static void burning() {
        of(17);
        says("`tube`: the number of the tube", () -> takesNumbersOf(3, (shop, tube) -> {
            shop.spare(tube);
            shop.pump(tube, 20);
            return shop.burn(tube, 200);
        }));
        says("`heat`: 0 to 400", () -> takes(0, 400, maker(20), (shop, heat) -> shop.burn(0, heat)));
        says("Returns whether it is burned out then.", () -> {
            Neonworks shop = pumped(8, 20);
            same("at 0", shop.burn(0, 0), false);
            same("at 199", shop.burn(0, 199), false);
            same("at 200", shop.burn(0, 200), true);
            same("once burned out it stays so", shop.burn(0, 0), true);
        });
        says("Throws `IndexOutOfBoundsException` if there is no such tube", () ->
                refusesNumbersFrom(3, (shop, tube) -> shop.burn(tube, 401)));
        says("Throws `IllegalArgumentException` if a number is out of range", () -> {
            refuses(0, 400, maker(20), (shop, heat) -> shop.burn(0, heat));
            refuses(0, 400, maker(1), (shop, heat) -> shop.burn(0, heat));
            refuses(0, 400, GasEdges::filledShop, (shop, heat) -> shop.burn(1, heat));
        });
        says("Throws `UnsupportedOperationException` if it is filled, or its rest of air is more than 50", () -> {
            refused("filled", REFUSED, () -> filled('n', 16), shop -> shop.burn(0, 200));
            refused("a rest of 100000", REFUSED, maker(0), shop -> shop.burn(0, 200));
            refused("a rest of 195", REFUSED, maker(9), shop -> shop.burn(0, 200));
            refused("a rest of 195 and no heat", REFUSED, maker(9), shop -> shop.burn(0, 0));
            same("a rest of 48", pumped(8, 10).burn(0, 200), true);
        });
    }

    private static void filling() {
        of(18);
        says("`tube`: the number of the tube", () -> takesNumbersOf(3, (shop, tube) -> {
            shop.spare(tube);
            return shop.fill(tube, 'n', 16);
        }));
        says("`gas`: 'n' or 'a'", () -> takesLetters("na", maker(0), (shop, gas) -> shop.fill(0, gas, 16)));
        says("`pressure`: 1 to 99", () -> takes(1, 99, maker(0), (shop, pressure) -> shop.fill(0, 'n', pressure)));
        says("Returns by how much it is not the right pressure.", () -> {
            same("1", burned().fill(0, 'n', 1), 15);
            same("15", burned().fill(0, 'n', 15), 1);
            same("16", burned().fill(0, 'n', 16), 0);
            same("17", burned().fill(0, 'a', 17), 1);
            same("99", burned().fill(0, 'a', 99), 83);
        });
        says("Throws `IndexOutOfBoundsException` if there is no such tube", () ->
                refusesNumbersFrom(3, (shop, tube) -> shop.fill(tube, 'x', 0)));
        says("Throws `IllegalArgumentException` if there is no such gas, or the pressure is out of range", () -> {
            refusesLettersBut("na", maker(0), (shop, gas) -> shop.fill(0, gas, 16));
            refuses(1, 99, maker(0), (shop, pressure) -> shop.fill(0, 'a', pressure));
            refuses(1, 99, GasEdges::filledShop, (shop, pressure) -> shop.fill(1, 'a', pressure));
            refused("no gas, and filled", WRONG, GasEdges::filledShop, shop -> shop.fill(1, 'A', 16));
        });
        says("Throws `UnsupportedOperationException` if it is filled", () -> {
            refused("the same again", REFUSED, GasEdges::filledShop, shop -> shop.fill(1, 'a', 14));
            refused("another gas", REFUSED, GasEdges::filledShop, shop -> shop.fill(1, 'n', 14));
            Neonworks shop = filled('n', 99);
            shop.spare(0);
            same("a spare is not filled", shop.fill(0, 'n', 99), 83);
        });
    }

    private static void looking() {
        of(19);
        says("`tube`: the number of the tube", () -> takesNumbersOf(3, Neonworks::stateOf));
        says("Returns 'b' bent alone, 'p' pumped, 'o' burned out, 'l' it lights, 'f' it is pale, 'x' filled, and does not "
                + "light, the last one that holds; 'x' ahead of 'l' and 'f'.", () -> {
            same("bent alone", pumped(8, 0).stateOf(0), 'b');
            same("pumped, for the least", pumped(8, 1).stateOf(0), 'p');
            same("burned out, and pumped", burned().stateOf(0), 'o');
            same("it lights", filled('n', 16).stateOf(0), 'l');
            same("it is pale, and lights", leakedBy(20).stateOf(0), 'f');
            same("it was pale, and does not light", leakedBy(40).stateOf(0), 'x');
            same("filled to a wrong pressure", filled('n', 20).stateOf(0), 'x');
            Neonworks cold = pumped(8, 1);
            cold.fill(0, 'n', 16);
            same("filled, not burned out", cold.stateOf(0), 'x');
        });
        says("Throws `IndexOutOfBoundsException` if there is no such tube", () -> refusesNumbersFrom(3, Neonworks::stateOf));
    }

    private static void lighting() {
        of(20);
        says("`tube`: the number of the tube", () -> takesNumbersOf(3, (shop, tube) -> shop.light(tube, 0, true, 'r')));
        says("`unit`: the unit, from 0", () -> takes(0, 5, Make::shop, (shop, unit) -> shop.light(1, unit, false, 'g')));
        says("`part`: 'r', 'g' or 'b'", () -> takesLetters("rgb", Make::shop, (shop, part) -> shop.light(0, 0, true, part)));
        says("Returns the part, 0 if it does not light by itself, rows aside, or is blacked out.", () -> {
            same("each part", colour(filled('n', 16), false), "255 60 20");
            same("it is not filled", colour(burned(), false), "0 0 0");
            same("it does not light", colour(filled('n', 20), false), "0 0 0");
            Neonworks shop = filled('a', 16);
            shop.transformer(100);
            shop.load(0, 0);
            same("its row does not light", shop.rowLights(0) + " " + colour(shop, false), "false 60 100 255");
            shop.black(0, 3, 4);
            same("the last one is blacked out", shop.light(0, 3, false, 'b'), 0);
            same("the one ahead is not", shop.light(0, 2, false, 'b'), 255);
        });
        says("Throws `IndexOutOfBoundsException` if there is no such tube", () ->
                refusesNumbersFrom(3, (shop, tube) -> shop.light(tube, -1, true, 'x')));
        says("Throws `IllegalArgumentException` if there is no such unit or part", () -> {
            refuses(0, 5, Make::shop, (shop, unit) -> shop.light(1, unit, true, 'r'));
            refuses(0, 3, Make::shop, (shop, unit) -> shop.light(0, unit, false, 'r'));
            refusesLettersBut("rgb", Make::shop, (shop, part) -> shop.light(0, 1, false, part));
            refusesLettersBut("rgb", Make::shop, (shop, part) -> shop.light(1, 0, false, part));
        });
    }

    private static Neonworks inYear(int year) {
        Neonworks shop = Make.shop();
        for (int left = year - shop.year(); left > 0; left -= 50) {
            shop.pass(Math.min(left, 50));
        }
        return shop;
    }

    private static void passing() {
        of(21);
        says("`years`: 1 to 50", () -> takes(1, 50, Make::shop, Neonworks::pass));
        says("Returns the year.", () -> {
            Neonworks shop = new Neonworks();
            same("behind 1", shop.pass(1), 1);
            same("behind 50 more", shop.pass(50), 51);
            same("it is asked for", shop.year(), 51);
        });
        says("Throws `IllegalArgumentException` if a number is out of range", () -> {
            refuses(1, 50, Make::shop, Neonworks::pass);
            refuses(1, 50, () -> inYear(1000), Neonworks::pass);
        });
        says("Throws `IllegalStateException` if it would be above 1000", () -> {
            refused("1 more", FULL, () -> inYear(1000), shop -> shop.pass(1));
            refused("2 more", FULL, () -> inYear(999), shop -> shop.pass(2));
            refused("50 more", FULL, () -> inYear(951), shop -> shop.pass(50));
            same("just 1000", inYear(999).pass(1), 1000);
            same("just 1000 by 50", inYear(950).pass(50), 1000);
        });
    }

    private static void leaking() {
        of(22);
        says("`tube`: the number of the tube", () -> takesNumbersOf(3, Neonworks::leaked));
        says("Returns what leaked into a tube.", () -> same("of the shop", Make.shop().leaked(0), 2));
        says("Returns how much.", () -> {
            Neonworks shop = new Neonworks();
            Make.tube(shop, 8, "eeee", 0, 0, 0);
            same("not filled", shop.leaked(0), 0);
            shop.fill(0, 'n', 1);
            shop.pass(50);
            same("all its air was left", shop.leaked(0), 50 * 10001);
            for (int i = 0; i < 19; i++) {
                shop.pass(50);
            }
            same("in a thousand years", shop.leaked(0), 1000 * 10001);
        });
        says("Throws `IndexOutOfBoundsException` if there is no such tube", () -> refusesNumbersFrom(3, Neonworks::leaked));
    }
}
