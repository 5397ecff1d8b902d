import java.util.function.Supplier;

/** Sentences of the week, and of promises 53 to 55. */
final class WeekEdges extends Edges {
    private WeekEdges() {
    }

    static void all() {
        termsOfDays();
        termsOfBending();
        termsOfHanging();
        raining();
        hanging();
        refusingToHang();
        bending();
    }

    private static Neonworks signs(int many) {
        Neonworks shop = new Neonworks();
        for (int i = 0; i < many; i++) {
            shop.sign(100, 100);
        }
        return shop;
    }

    private static int hang(Neonworks shop, int sign, String letters) {
        int tube = Make.tube(shop, 8, letters, -400 + 100 * sign, shop.allUnits() / 2, 0);
        shop.hang(sign, tube, 'A');
        return tube;
    }

    /** Signs, each of some tubes that are straight and bent in an hour each, with some units together. */
    private static Neonworks straight(int... tubesAndUnits) {
        Neonworks shop = signs(tubesAndUnits.length / 2);
        int row = 0;
        for (int i = 0; i < tubesAndUnits.length; i += 2) {
            int left = tubesAndUnits[i + 1];
            for (int tubes = tubesAndUnits[i]; tubes > 0; tubes--) {
                int units = Math.min(60, left - (tubes - 1));
                int tube = Make.tube(shop, 8, "e".repeat(units), 0, row++, 0);
                shop.hang(i / 2, tube, 'A');
                left -= units;
            }
            same("all units hang", left, 0);
        }
        return shop;
    }

    private static String days(Neonworks shop, int signs) {
        StringBuilder all = new StringBuilder();
        for (int i = 0; i < signs; i++) {
            all.append(i == 0 ? "" : " ").append(shop.hungOn(i));
        }
        return all.toString();
    }

    private static Neonworks rainy(Neonworks shop, int from, int to) {
        for (int day = from; day <= to; day++) {
            shop.rain(day, true);
        }
        return shop;
    }

    private static void termsOfDays() {
        of(0);
        says("A day has 8 hours", () -> {
            // Six hours of bending and two of hanging are a day.
            same("to its end", days(straight(6, 6), 1), "0");
            same("an hour more", days(straight(7, 7), 1), "1");
            same("two days", days(straight(14, 14), 1), "1");
            same("two days and an hour more", days(straight(15, 15), 1), "2");
        });
        says("Days are numbered from 0", () -> {
            same("the first day", days(straight(1, 1), 1), "0");
            same("the second one", days(rainy(straight(1, 1), 0, 0), 1), "1");
        });
    }

    private static void termsOfBending() {
        of(0);
        says("One bender bends all tubes that hang on signs, by signs, then by their order", () -> {
            Neonworks shop = signs(2);
            int third = hang(shop, 1, "en");
            int first = hang(shop, 0, "enene");
            int second = hang(shop, 0, "e");
            int fourth = hang(shop, 1, "e");
            Make.tube(shop, 8, "enenenene", 300, 300, 0);
            same("at the ends", shop.bentAt(first) + " " + shop.bentAt(second) + " " + shop.bentAt(third) + " "
                    + shop.bentAt(fourth), "3 4 5 6");
        });
        says("a tube takes its heat / 20, cut, and 1 hour, without a break over days if need be", () -> {
            String[] paths = {"e", "en", "ene", "enen", "enene", "enenene", "enenenene"};
            int[] due = {1, 1, 2, 2, 3, 4, 5};
            for (int i = 0; i < paths.length; i++) {
                same("a heat of " + 10 * (paths[i].length() - 1), bentAlone(paths[i]), due[i]);
            }
            Neonworks hot = signs(1);
            same("a heat of 95", hot.bentAt(hang(hot, 0, "sesssswwnnenwn")) + " " + hot.heat(0), "5 95");
            same("a heat of 45", bentAlone(Make.runs("e3n3w3s2w1")), 3);
            Neonworks shop = signs(1);
            same("five hours", shop.bentAt(hang(shop, 0, "enenenene")), 5);
            same("ten hours, over the end of a day", shop.bentAt(hang(shop, 0, "enenenene")), 10);
            same("eleven hours", shop.bentAt(hang(shop, 0, "e")), 11);
        });
    }

    private static int bentAlone(String letters) {
        Neonworks shop = signs(1);
        return shop.bentAt(hang(shop, 0, letters));
    }

    private static void termsOfHanging() {
        of(0);
        says("Three installers hang signs, by rising numbers, each one by the installer who is free first, of several the "
                + "lowest, at the earliest behind the hour in which the last tube of the sign was bent", () -> {
            same("at the hour 6", days(straight(6, 6), 1), "0");
            same("at the hour 7", days(straight(7, 7), 1), "1");
            same("the second one at the hour 6", days(straight(4, 4, 2, 2), 2), "0 0");
            same("the second one at the hour 7", days(straight(4, 4, 3, 3), 2), "0 1");
            // All are bent when it ends to rain. Of 120 units each takes 5 hours, of 79 units 3, of 80 units 4.
            same("three, and a fourth behind one", days(rainy(straight(2, 120, 2, 120, 2, 120, 2, 79), 0, 3), 4), "4 4 4 4");
            same("three, and a fourth on the next day", days(rainy(straight(2, 120, 2, 120, 2, 120, 2, 80), 0, 3), 4),
                    "4 4 4 5");
            // The second one takes 2 hours, and 6 or 7 go behind it.
            same("who is free first", days(rainy(straight(2, 120, 1, 1, 2, 120, 3, 160), 0, 3), 4), "4 4 4 4");
            same("nobody has 7 hours left", days(rainy(straight(2, 120, 1, 1, 2, 120, 4, 200), 0, 3), 4), "4 4 4 5");
        });
        says("a sign takes its units / 40, cut, and 2 hours, all in one day without rain, within its 8 hours", () -> {
            same("39 units, at the hour 6", days(straight(6, 39), 1), "0");
            same("40 units, at the hour 6", days(straight(6, 40), 1), "1");
            same("79 units, at the hour 5", days(straight(5, 79), 1), "0");
            same("80 units, at the hour 5", days(straight(5, 80), 1), "1");
            same("279 units, a whole day", days(straight(5, 279), 1), "1");
            same("rain", days(rainy(straight(1, 1), 0, 2), 1), "3");
            same("rain behind it", days(rainy(straight(1, 1), 1, 3), 1), "0");
            same("rain on the day on which it is bent", days(rainy(straight(7, 7), 0, 0), 1), "1");
            same("rain on the day behind", days(rainy(straight(7, 7), 1, 1), 1), "2");
        });
    }

    private static void raining() {
        of(53);
        says("`day`: 0 to 30", () -> takes(0, 30, Make::shop, (shop, day) -> shop.rain(day, true)));
        says("Tells whether it rains on a day.", () -> {
            same("it rains", days(rainy(signs(1), 0, 0), 1), "1");
            Neonworks shop = rainy(signs(1), 0, 0);
            shop.rain(0, false);
            same("it does not", days(shop, 1), "0");
        });
        says("Returns whether it did.", () -> {
            Neonworks shop = new Neonworks();
            for (int day = 0; day <= 30; day++) {
                same("at first", shop.rain(day, false), false);
                same("then", shop.rain(day, true), false);
                same("then", shop.rain(day, true), true);
                same("then", shop.rain(day, false), true);
            }
        });
        says("Throws `IllegalArgumentException` if a number is out of range", () -> {
            refuses(0, 30, Make::shop, (shop, day) -> shop.rain(day, true));
            refuses(0, 30, Make::shop, (shop, day) -> shop.rain(day, false));
        });
    }

    private static void hanging() {
        of(54);
        says("`sign`: the number of the sign", () -> takesNumbersOf(2, Neonworks::hungOn));
        says("Returns on which day a sign is hung.", () -> same("of the shop", days(Make.shop(), 2), "0 0"));
        says("Returns the day.", () -> {
            same("the first", days(signs(1), 1), "0");
            same("behind all days of rain", days(rainy(signs(1), 0, 30), 1), "31");
            same("the last day of rain is dry", days(rainy(signs(1), 0, 29), 1), "30");
            same("the day behind that", days(rainy(straight(2, 120, 2, 120, 2, 120, 2, 80), 0, 30), 4), "31 31 31 32");
        });
        says("Throws `IndexOutOfBoundsException` if there is no such sign", () -> {
            refusesNumbersFrom(2, Neonworks::hungOn);
            refused("ahead of a sign of 9 hours", NONE, () -> straight(5, 280), shop -> shop.hungOn(1));
        });
        // The most that a shop can have of bending and rain leaves each sign hung by day 32.
        says("Throws `NoSuchElementException` if it is hung on none of the days 0 to 60", () -> {
            Neonworks shop = rainy(signs(6), 0, 30);
            for (int i = 0; i < 20; i++) {
                hang(shop, i % 6, "enenenene");
            }
            for (int i = 0; i < 6; i++) {
                int sign = i;
                Check.runs("sign " + i, () -> shop.hungOn(sign));
            }
        });
    }

    private static void refusingToHang() {
        Supplier<Neonworks> nine = () -> straight(5, 280, 1, 1);
        of(54);
        // No tube is known that cannot be bent.
        says("Throws `UnsupportedOperationException` if a tube that hangs cannot be bent, or a sign takes more than 8 hours",
                () -> {
            refused("it takes 9 hours", REFUSED, nine, shop -> shop.hungOn(0));
            refused("a sign ahead of it does", REFUSED, nine, shop -> shop.hungOn(1));
            refused("a sign behind it does", REFUSED, () -> straight(1, 1, 5, 280), shop -> shop.hungOn(0));
            same("it takes 8 hours", straight(5, 279, 1, 1).hungOn(0), 1);
            Neonworks shop = straight(5, 279);
            Make.tube(shop, 8, "e", 0, 50, 0);
            same("one unit more, that does not hang", shop.hungOn(0), 1);
        });
    }

    private static void bending() {
        of(55);
        says("`tube`: the number of the tube", () -> takesNumbersOf(2, Neonworks::bentAt));
        says("Returns at which hour of all hours of work a tube is bent.", () ->
                same("of the shop", Make.shop().bentAt(0) + " " + Make.shop().bentAt(1), "1 3"));
        says("Returns the hour, from 0, at its end.", () -> {
            same("the least", bentAlone("e"), 1);
            Neonworks shop = signs(1);
            for (int i = 0; i < 20; i++) {
                same("the end of tube " + i, shop.bentAt(hang(shop, 0, "enenenene")), 5 * (i + 1));
            }
        });
        says("Throws `IndexOutOfBoundsException` if there is no such tube", () -> refusesNumbersFrom(3, Neonworks::bentAt));
        says("Throws `UnsupportedOperationException` if it hangs nowhere, or a tube that hangs cannot be bent", () -> {
            refused("it hangs nowhere", REFUSED, Make::shop, shop -> shop.bentAt(2));
            same("a sign of 9 hours is no reason", straight(5, 280).bentAt(4), 5);
        });
    }
}
