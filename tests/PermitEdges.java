import java.util.function.Supplier;

/** Sentences of permits and the sky, and of promises 46 and 47. */
final class PermitEdges extends Edges {
    private PermitEdges() {
    }

    static void all() {
        termsOfStreets();
        termsOfLight();
        termsOfGases();
        termsOfSleepers();
        termsOfSky();
        permitting();
        refusingToPermit();
        darkening();
    }

    /**
     * A small sign of some light, told in units of 690 (white argon), of 255 (neon in ruby glass), of 60 (argon in ruby
     * glass), of 20 (neon in blue glass) and of 467 (white neon).
     */
    private static Neonworks shining(int... units) {
        Neonworks shop = FrameEdges.frame(10, 10);
        char[] gases = {'a', 'n', 'a', 'n', 'n'};
        int[] coats = {1, 4, 4, 5, 1};
        for (int i = 0; i < units.length; i++) {
            for (int left = units[i]; left > 0; left -= 60) {
                int tube = Make.tube(shop, 8, "e".repeat(Math.min(left, 60)), 100 * i, left % 500, 0);
                shop.setCoat(tube, coats[i]);
                Make.lightUp(shop, tube, 8, gases[i]);
                shop.hang(0, tube, 'A');
            }
        }
        return shop;
    }

    /** A sign with a tube of a gas, or of none, and a coat. */
    private static Neonworks coated(char gas, int coat) {
        Neonworks shop = FrameEdges.frame(10, 10);
        Make.tube(shop, 8, "e", 0, 0, 0);
        shop.setCoat(0, coat);
        if (gas != '-') {
            shop.fill(0, gas, 16);
        }
        shop.hang(0, 0, 'A');
        return shop;
    }

    /** A sign with a tube, wired to cams of these periods. */
    private static Neonworks wired(char relay, int period, int other) {
        Neonworks shop = coated('-', 0);
        shop.cam(period, 0);
        shop.cam(other, 0);
        shop.wire(0, relay, 0, 1);
        return shop;
    }

    private static char permitOfArea(int width, int height, int street) {
        return FrameEdges.frame(width, height).permit(0, street, 1, 0);
    }

    private static void termsOfStreets() {
        of(0);
        says("A street is of a kind, 0 to 3: a square, a main street, a quiet one, an old one", () -> {
            same("argon by kind", "" + coated('a', 0).permit(0, 0, 1, 0) + coated('a', 0).permit(0, 1, 1, 0)
                    + coated('a', 0).permit(0, 2, 1, 0) + coated('a', 0).permit(0, 3, 1, 0), "yyyg");
            same("a sleeper by kind", "" + wired('d', 1, 1).permit(0, 0, 1, 0) + wired('d', 1, 1).permit(0, 1, 1, 0)
                    + wired('d', 1, 1).permit(0, 2, 1, 0) + wired('d', 1, 1).permit(0, 3, 1, 0), "yysy");
        });
        says("The most area of a sign, width times height, is 90000, 40000, 10000, 6000", () -> {
            same("90000", permitOfArea(300, 300, 0), 'y');
            // No sides have an area of 90001 to 90004.
            same("90005", permitOfArea(235, 383, 0), 'a');
            same("40000", permitOfArea(200, 200, 1), 'y');
            same("40001", permitOfArea(181, 221, 1), 'a');
            same("10000", permitOfArea(100, 100, 2), 'y');
            same("10001", permitOfArea(137, 73, 2), 'a');
            same("6000", permitOfArea(100, 60, 3), 'y');
            same("6001", permitOfArea(353, 17, 3), 'a');
        });
        says("the last hour 24, 24, 22, 21", () -> {
            int[] last = {24, 24, 22, 21};
            for (int street = 0; street < 4; street++) {
                for (int hour = 1; hour <= 24; hour++) {
                    char due = hour > last[street] ? 'h' : 'y';
                    same("to " + hour + " in " + street, FrameEdges.frame(10, 10).permit(0, street, hour, 0), due);
                }
            }
        });
    }

    private static void termsOfLight() {
        of(0);
        says("the most light, 90000, 40000, 10000, 5000", () -> {
            int[][] just = {{130, 0, 5}, {56, 0, 22, 2}, {14, 0, 5, 2}, {6, 0, 14, 1}};
            int[][] above = {{128, 0, 4, 2, 3}, {55, 2, 2, 1, 3}, {12, 0, 5, 1, 3}, {1, 1, 5, 1, 8}};
            int[] most = {90000, 40000, 10000, 5000};
            for (int street = 0; street < 4; street++) {
                same("so much light", shining(just[street]).lightOf(0), most[street]);
                // In an old street argon is not allowed, but that is looked at behind the light.
                same("the most in " + street, shining(just[street]).permit(0, street, 1, 0), street == 3 ? 'g' : 'y');
                same("so much light", shining(above[street]).lightOf(0), most[street] + 1);
                same("1 more in " + street, shining(above[street]).permit(0, street, 1, 0), 'l');
            }
        });
    }

    private static void termsOfGases() {
        of(0);
        says("In an old street, argon and coats 4 and 5 are not allowed", () -> {
            for (int coat = 0; coat <= 5; coat++) {
                same("neon, coat " + coat, coated('n', coat).permit(0, 3, 1, 0), coat >= 4 ? 'g' : 'y');
                same("argon, coat " + coat, coated('a', coat).permit(0, 3, 1, 0), 'g');
                same("not filled, coat " + coat, coated('-', coat).permit(0, 3, 1, 0), coat >= 4 ? 'g' : 'y');
            }
        });
    }

    private static void termsOfSleepers() {
        of(0);
        says("in a quiet one, a sleeper nearer than 100 to a sign with a period of any of its cams less than 3 forbids it", () -> {
            same("a period of 1", wired('d', 1, 9).permit(0, 2, 1, 0), 's');
            same("a period of 2", wired('n', 2, 9).permit(0, 2, 1, 0), 's');
            same("a period of 3", wired('d', 3, 1).permit(0, 2, 1, 0), 'y');
            same("the second cam", wired('a', 3, 2).permit(0, 2, 1, 0), 's');
            same("the second cam", wired('o', 3, 3).permit(0, 2, 1, 0), 'y');
            same("at 99", wired('d', 1, 9).permit(0, 2, 1, 99), 's');
            same("at 100", wired('d', 1, 9).permit(0, 2, 1, 100), 'y');
            Neonworks shop = wired('d', 3, 3);
            shop.cam(1, 0);
            same("a cam that is not its own", shop.permit(0, 2, 1, 0), 'y');
            Neonworks unwired = coated('-', 0);
            unwired.cam(1, 0);
            same("no cam", unwired.permit(0, 2, 1, 0), 'y');
        });
    }

    private static void termsOfSky() {
        of(0);
        says("What goes up is the light times (90 less the shield) / 90", () -> {
            // A light of 20700: of it 19780 go up by a shield of 4, and just 20010 by one of 3.
            same("a shield of 3", shining(30).isDark(0, 3, 1, 0), false);
            same("a shield of 4", shining(30).isDark(0, 4, 1, 0), true);
            same("nothing", shining(30).isDark(0, 90, 100, 23), true);
            same("all of it", shining(30).isDark(0, 0, 1, 0), false);
            // A light of 1020: 1008.7 by a shield of 1, 997.3 by one of 2.
            same("a shield of 1", shining(0, 4).isDark(0, 1, 100, 23), false);
            same("a shield of 2", shining(0, 4).isDark(0, 2, 100, 23), true);
            // Of 1022 just 999.3 go up.
            same("not cut to less", shining(0, 1, 5, 0, 1).lightOf(0) + " " + shining(0, 1, 5, 0, 1).isDark(0, 2, 100, 23),
                    "1022 true");
        });
        says("in days 80 to 150 and 240 to 310 of the year, birds pass: from hour 22 on it must be less than 1000, else less "
                + "than 20000", () -> {
            for (int day = 1; day <= 366; day++) {
                boolean hasBirds = day >= 80 && day <= 150 || day >= 240 && day <= 310;
                same("day " + day + " at 21", shining(0, 4).isDark(0, 0, day, 21), true);
                same("day " + day + " at 22", shining(0, 4).isDark(0, 0, day, 22), !hasBirds);
                same("day " + day + " at 23", shining(0, 4).isDark(0, 0, day, 23), !hasBirds);
                same("day " + day + " at 0", shining(0, 4).isDark(0, 0, day, 0), true);
            }
            same("980 with birds", shining(0, 0, 16, 1).isDark(0, 0, 80, 22), true);
            same("1000 with birds", shining(0, 0, 16, 2).isDark(0, 0, 80, 22), false);
            same("19980 without", shining(28, 0, 11).isDark(0, 0, 79, 22), true);
            same("19999 without", shining(27, 1, 3, 0, 2).isDark(0, 0, 79, 22), true);
            same("20000 without", shining(28, 0, 11, 1).isDark(0, 0, 79, 22), false);
            same("19980 with birds, by day", shining(28, 0, 11).isDark(0, 0, 80, 21), true);
            same("20000 with birds, by day", shining(28, 0, 11, 1).isDark(0, 0, 80, 21), false);
        });
    }

    private static Neonworks small() {
        return FrameEdges.frame(10, 10);
    }

    private static void permitting() {
        of(46);
        says("`sign`: the number of the sign", () -> takesNumbersOf(2, (shop, sign) -> shop.permit(sign, 0, 1, 0)));
        says("`street`: 0 to 3", () -> takes(0, 3, PermitEdges::small, (shop, street) -> shop.permit(0, street, 1, 0)));
        says("`hour`: the last hour in which it is lit, 1 to 24", () ->
                takes(1, 24, PermitEdges::small, (shop, hour) -> shop.permit(0, 2, hour, 0)));
        says("`sleeper`: how far the nearest sleeper is, 0 to 9999", () ->
                takes(0, 9999, PermitEdges::small, (shop, sleeper) -> shop.permit(0, 2, 1, sleeper)));
        says("Returns 'a' its area, 'l' its light, 'h' the hour, 'g' a gas or coat, 's' a sleeper forbids it, 'y' yes, the "
                + "first one that holds.", () -> {
            same("area, ahead of all", tooMuch(400).permit(0, 3, 24, 0), 'a');
            same("light, ahead of the hour", tooMuch(10).permit(0, 3, 24, 0), 'l');
            same("the hour, ahead of a gas", coated('a', 5).permit(0, 3, 22, 0), 'h');
            same("the hour, ahead of a sleeper", wired('d', 1, 1).permit(0, 2, 23, 0), 'h');
            same("a gas", coated('a', 5).permit(0, 3, 21, 0), 'g');
            same("a sleeper", wired('d', 1, 1).permit(0, 2, 22, 0), 's');
            same("yes", small().permit(0, 3, 21, 0), 'y');
        });
    }

    /** A sign of argon in white that has more light than an old street bears. */
    private static Neonworks tooMuch(int side) {
        Neonworks shop = FrameEdges.frame(side, side);
        Make.tube(shop, 8, "eeeeeeeeee", 0, 0, 0);
        shop.setCoat(0, 1);
        Make.lightUp(shop, 0, 8, 'a');
        shop.hang(0, 0, 'A');
        return shop;
    }

    private static void refusingToPermit() {
        Supplier<Neonworks> maker = Make::shop;
        of(46);
        says("Throws `IndexOutOfBoundsException` if there is no such sign", () -> {
            refusesNumbersFrom(2, (shop, sign) -> shop.permit(sign, 0, 1, 0));
            refusesNumbersFrom(2, (shop, sign) -> shop.permit(sign, 4, 0, -1));
        });
        says("Throws `IllegalArgumentException` if a number is out of range", () -> {
            refuses(0, 3, maker, (shop, street) -> shop.permit(0, street, 1, 0));
            refuses(1, 24, maker, (shop, hour) -> shop.permit(0, 0, hour, 0));
            refuses(0, 9999, maker, (shop, sleeper) -> shop.permit(0, 0, 1, sleeper));
        });
    }

    private static void darkening() {
        Supplier<Neonworks> maker = Make::shop;
        of(47);
        says("`sign`: the number of the sign", () -> takesNumbersOf(2, (shop, sign) -> shop.isDark(sign, 0, 1, 0)));
        says("`shield`: 0 to 90", () -> takes(0, 90, maker, (shop, shield) -> shop.isDark(0, shield, 1, 0)));
        says("`day`: 1 to 366", () -> takes(1, 366, maker, (shop, day) -> shop.isDark(0, 0, day, 0)));
        says("`hour`: 0 to 23", () -> takes(0, 23, maker, (shop, hour) -> shop.isDark(0, 0, 1, hour)));
        says("Returns whether it does.", () -> {
            same("it does", small().isDark(0, 0, 100, 22), true);
            same("it does not", shining(0, 4).isDark(0, 0, 100, 22), false);
        });
        says("Throws `IndexOutOfBoundsException` if there is no such sign", () -> {
            refusesNumbersFrom(2, (shop, sign) -> shop.isDark(sign, 0, 1, 0));
            refusesNumbersFrom(2, (shop, sign) -> shop.isDark(sign, 91, 0, 24));
        });
        says("Throws `IllegalArgumentException` if a number is out of range", () -> {
            refuses(0, 90, maker, (shop, shield) -> shop.isDark(0, shield, 1, 0));
            refuses(1, 366, maker, (shop, day) -> shop.isDark(0, 0, day, 0));
            refuses(0, 23, maker, (shop, hour) -> shop.isDark(0, 0, 1, hour));
        });
    }
}
