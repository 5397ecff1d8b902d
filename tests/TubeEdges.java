import java.util.function.Supplier;

/** Sentences of tubes and their places, and of promises 6 to 11. */
final class TubeEdges extends Edges {
    private TubeEdges() {
    }

    static void all() {
        terms();
        making();
        refusingToMake();
        places();
        meeting();
        blacking();
    }

    private static Neonworks fullOfTubes() {
        Neonworks shop = new Neonworks();
        for (int i = 0; i < 20; i++) {
            Make.tube(shop, 8, "e", 0, i, 0);
        }
        return shop;
    }

    private static Neonworks fullWithPath() {
        return Make.typed(fullOfTubes(), "e");
    }

    private static Supplier<Neonworks> path(String letters) {
        return () -> Make.typed(letters);
    }

    private static void terms() {
        of(0);
        says("At most 20 tubes are numbered from 0", () -> {
            Neonworks shop = new Neonworks();
            for (int i = 0; i < 20; i++) {
                same("number", Make.tube(shop, 8, "e", 0, i, 0), i);
            }
            shop.type('e');
            Check.fails("the 21st", FULL, () -> shop.tube(8, 0, 0, 0));
            same("units of the last", shop.units(19), 1);
            Check.fails("tube 20", NONE, () -> shop.units(20));
        });
        says("they begin at a place that is told, z 0 or more, and no place of them has a z below 0", () -> {
            same("down to the wall", Make.typed("edd").tube(8, 0, 0, 2), 0);
            Check.fails("down into the wall", REFUSED, () -> Make.typed("edd").tube(8, 0, 0, 1));
            same("the beginning", placeOf(Make.typed("edd"), 4, 5, 2), "4 5 2");
            same("along the wall", Make.typed("e").tube(8, 0, 0, 0), 0);
            Check.fails("a beginning in the wall", WRONG, () -> Make.typed("u").tube(8, 0, 0, -1));
            Check.fails("in the wall in its middle alone", REFUSED, () -> Make.typed("deu").tube(8, 0, 0, 0));
        });
        says("Units of a tube can be blacked out, from one to a greater one", () -> {
            Neonworks shop = Make.shop();
            same("one unit", shop.black(1, 2, 3), 1);
            Check.fails("to the same", WRONG, () -> shop.black(1, 3, 3));
            Check.fails("to a lesser one", WRONG, () -> shop.black(1, 3, 2));
            same("one more", shop.black(1, 3, 4), 2);
        });
    }

    private static String placeOf(Neonworks shop, int x, int y, int z) {
        shop.tube(8, x, y, z);
        return shop.at(0, 0, 'x') + " " + shop.at(0, 0, 'y') + " " + shop.at(0, 0, 'z');
    }

    private static void making() {
        of(6);
        says("Makes a tube of the path, which is empty then.", () -> {
            Neonworks shop = Make.typed("en");
            shop.tube(8, 0, 0, 0);
            same("the path", shop.judge(8), '-');
            same("its letters", shop.erase(), 0);
            same("the units of the tube", shop.units(0), 2);
        });
        says("`width`: 8, 10, 12 or 15", () -> {
            for (int width : new int[] {8, 10, 12, 15}) {
                Check.runs("width " + width, () -> Make.typed("e").tube(width, 0, 0, 0));
            }
        });
        says("`x`: -500 to 500", () -> takes(-500, 500, path("e"), (shop, x) -> shop.tube(8, x, 0, 0)));
        says("`y`: -500 to 500", () -> takes(-500, 500, path("e"), (shop, y) -> shop.tube(8, 0, y, 0)));
        says("`z`: 0 to 50", () -> takes(0, 50, path("e"), (shop, z) -> shop.tube(8, 0, 0, z)));
        says("Returns the number of the tube.", () -> {
            Neonworks shop = new Neonworks();
            same("the first", Make.tube(shop, 8, "e", 0, 0, 0), 0);
            same("the second", Make.tube(shop, 15, "e", 0, 0, 0), 1);
            shop.spare(1);
            same("behind a spare", Make.tube(shop, 8, "e", 0, 0, 0), 2);
        });
    }

    private static void refusingToMake() {
        of(6);
        says("Throws `IllegalArgumentException` if there is no such width, or a number is out of range", () -> {
            for (int width : new int[] {7, 9, 11, 14, 16, 0, -8, Integer.MAX_VALUE, Integer.MIN_VALUE}) {
                refused("width " + width, WRONG, Make::shop, shop -> shop.tube(width, 0, 0, 0));
            }
            refuses(-500, 500, Make::shop, (shop, x) -> shop.tube(8, x, 0, 0));
            refuses(-500, 500, Make::shop, (shop, y) -> shop.tube(8, 0, y, 0));
            refuses(0, 50, Make::shop, (shop, z) -> shop.tube(8, 0, 0, z));
            refused("ahead of no path", WRONG, Neonworks::new, shop -> shop.tube(8, 501, 0, 0));
            refused("ahead of too many", WRONG, TubeEdges::fullWithPath, shop -> shop.tube(8, 0, 0, 51));
        });
        says("Throws `UnsupportedOperationException` if the path is not good, or it comes to a z below 0", () -> {
            refused("empty", REFUSED, Neonworks::new, shop -> shop.tube(8, 0, 0, 0));
            refused("opposite letters", REFUSED, path("ew"), shop -> shop.tube(8, 0, 0, 0));
            refused("nine bends", REFUSED, path("enenenenen"), shop -> shop.tube(8, 0, 0, 0));
            refused("a short run", REFUSED, path("ene"), shop -> shop.tube(10, 0, 0, 0));
            refused("it meets itself", REFUSED, path("eennwwss"), shop -> shop.tube(8, 0, 0, 0));
            refused("below 0", REFUSED, path("ddd"), shop -> shop.tube(8, 0, 0, 2));
            refused("below 0 ahead of its end", REFUSED, path("deu"), shop -> shop.tube(8, 0, 0, 0));
            refused("up, then below 0", REFUSED, path("uedd"), shop -> shop.tube(8, 0, 0, 0));
            refused("below 0 ahead of too many", REFUSED, () -> Make.typed(fullOfTubes(), "d"),
                    shop -> shop.tube(8, 0, 0, 0));
            refused("empty ahead of too many", REFUSED, TubeEdges::fullOfTubes, shop -> shop.tube(8, 0, 0, 0));
            same("just down to 0", Make.typed("ddd").tube(8, 0, 0, 3), 0);
            same("a run that is just long enough", Make.typed("ene").tube(8, 0, 0, 0), 0);
            same("eight bends", Make.typed("enenenene").tube(8, 0, 0, 0), 0);
        });
        says("Throws `IllegalStateException` if there are 20", () ->
                refused("the 21st", FULL, TubeEdges::fullWithPath, shop -> shop.tube(8, 0, 0, 0)));
    }

    private static void places() {
        of(7);
        says("`tube`: the number of the tube", () -> takesNumbersOf(3, Neonworks::units));
        says("Returns how many units a tube has.", () -> same("units of the shop", unitsOf(Make.shop()), "4 6 4"));
        says("Returns the number of units.", () -> {
            for (int many : new int[] {1, 2, 59, 60}) {
                Neonworks shop = new Neonworks();
                Make.tube(shop, 8, "e".repeat(many), 0, 0, 0);
                same("units", shop.units(0), many);
            }
        });
        says("Throws `IndexOutOfBoundsException` if there is no such tube", () -> refusesNumbersFrom(3, Neonworks::units));
        of(8);
        says("`tube`: the number of the tube", () -> takesNumbersOf(3, (shop, tube) -> shop.at(tube, 0, 'x')));
        says("`place`: the place, from 0", () -> takes(0, 6, Make::shop, (shop, place) -> shop.at(1, place, 'y')));
        says("`axis`: 'x', 'y' or 'z'", () -> takesLetters("xyz", Make::shop, (shop, axis) -> shop.at(1, 6, axis)));
        says("Returns the number.", () -> {
            Neonworks shop = new Neonworks();
            Make.tube(shop, 8, "wwsseu", -500, -499, 50);
            same("the first place", shop.at(0, 0, 'x') + " " + shop.at(0, 0, 'y') + " " + shop.at(0, 0, 'z'), "-500 -499 50");
            same("the last place", shop.at(0, 6, 'x') + " " + shop.at(0, 6, 'y') + " " + shop.at(0, 6, 'z'), "-501 -501 51");
        });
        says("Throws `IndexOutOfBoundsException` if there is no such tube", () ->
                refusesNumbersFrom(3, (shop, tube) -> shop.at(tube, -1, 'q')));
        says("Throws `IllegalArgumentException` if there is no such place or axis", () -> {
            refuses(0, 6, Make::shop, (shop, place) -> shop.at(1, place, 'x'));
            refusesLettersBut("xyz", Make::shop, (shop, axis) -> shop.at(1, 0, axis));
        });
    }

    private static String unitsOf(Neonworks shop) {
        return shop.units(0) + " " + shop.units(1) + " " + shop.units(2);
    }

    private static void meeting() {
        of(9);
        says("Returns whether two tubes meet, having a place in common.", () -> {
            same("beginning to end", areMeeting("e", 0, 0, 0, "e", 1, 0, 0), true);
            same("beside each other", areMeeting("e", 0, 0, 0, "e", 2, 0, 0), false);
            same("one above the other", areMeeting("ee", 0, 0, 0, "ee", 0, 0, 1), false);
            same("crossing", areMeeting("eeee", 0, 0, 3, "nnnn", 2, -2, 3), true);
            same("the last places alone", areMeeting("eee", 0, 0, 0, "nnn", 3, -3, 0), true);
        });
        says("`tube`: the number of the tube", () -> takesNumbersOf(2, (shop, tube) -> shop.meet(tube, 2)));
        says("`other`: the number of another one", () -> takesNumbersOf(2, (shop, other) -> shop.meet(2, other)));
        says("Returns whether they do.", () -> {
            Neonworks shop = new Neonworks();
            Make.tube(shop, 8, "ee", 0, 0, 0);
            Make.tube(shop, 8, "nn", 2, 0, 0);
            Make.tube(shop, 8, "nn", 3, 0, 0);
            same("they do", shop.meet(0, 1) + " " + shop.meet(1, 0), "true true");
            same("they do not", shop.meet(0, 2) + " " + shop.meet(2, 0), "false false");
        });
        says("Throws `IndexOutOfBoundsException` if there is no such tube, for either", () -> {
            refusesNumbersFrom(3, (shop, tube) -> shop.meet(tube, 1));
            refusesNumbersFrom(3, (shop, other) -> shop.meet(1, other));
            refusesNumbersFrom(3, (shop, both) -> shop.meet(both, both));
        });
        says("Throws `IllegalArgumentException` if both are the same", () -> {
            for (int tube = 0; tube < 3; tube++) {
                int both = tube;
                refused("tube " + tube, WRONG, Make::shop, shop -> shop.meet(both, both));
            }
        });
    }

    private static boolean areMeeting(String one, int x, int y, int z, String other, int otherX, int otherY, int otherZ) {
        Neonworks shop = new Neonworks();
        Make.tube(shop, 8, one, x, y, z);
        Make.tube(shop, 8, other, otherX, otherY, otherZ);
        return shop.meet(0, 1);
    }

    private static void blacking() {
        of(10);
        says("`tube`: the number of the tube", () -> takesNumbersOf(3, (shop, tube) -> shop.black(tube, 0, 1)));
        says("`from`: the first unit, from 0", () -> takes(0, 5, Make::shop, (shop, from) -> shop.black(1, from, 6)));
        says("`to`: the one behind the last one, greater", () -> takes(1, 6, Make::shop, (shop, to) -> shop.black(1, 0, to)));
        says("Returns how many are blacked out then.", () -> {
            Neonworks shop = Make.shop();
            same("the first", shop.black(1, 0, 1), 1);
            same("the last", shop.black(1, 5, 6), 2);
            same("the first and the next", shop.black(1, 0, 2), 3);
            same("again", shop.black(1, 0, 2), 3);
            same("all", shop.black(1, 0, 6), 6);
            same("of another tube", shop.black(2, 0, 1), 1);
        });
        says("Throws `IndexOutOfBoundsException` if there is no such tube", () ->
                refusesNumbersFrom(3, (shop, tube) -> shop.black(tube, 1, 1)));
        says("Throws `IllegalArgumentException` if there are no such units", () -> {
            refuses(0, 5, Make::shop, (shop, from) -> shop.black(1, from, 6));
            refuses(1, 6, Make::shop, (shop, to) -> shop.black(1, 0, to));
            for (int unit = 0; unit <= 6; unit++) {
                int both = unit;
                refused("from " + unit + " to the same", WRONG, Make::shop, shop -> shop.black(1, both, both));
            }
            refused("backwards", WRONG, Make::shop, shop -> shop.black(1, 4, 3));
        });
    }
}
