/** Sentences of old signs, and of promises 48 to 52. */
final class OldSignEdges extends Edges {
    private OldSignEdges() {
    }

    static void all() {
        termsOfMarks();
        termsOfTraces();
        termsOfKeeping();
        marking();
        fitting();
        tracing();
        comparing();
        keeping();
    }

    private static Neonworks withTube(String letters, int x, int y) {
        Neonworks shop = new Neonworks();
        Make.tube(shop, 8, letters, x, y, 0);
        return shop;
    }

    private static Neonworks marked(Neonworks shop, int... places) {
        for (int i = 0; i < places.length; i += 2) {
            shop.mark(places[i], places[i + 1]);
        }
        return shop;
    }

    private static Neonworks fullOfMarks() {
        Neonworks shop = withTube("ee", 0, 0);
        for (int i = 0; i < 12; i++) {
            shop.mark(i, -i);
        }
        return shop;
    }

    private static String trace(Neonworks shop) {
        return shop.fits(0) + ": " + shop.trace(0, true) + " " + shop.trace(0, false);
    }

    private static void termsOfMarks() {
        of(0);
        says("Marks under paint are places of x and y, 12 at most", () -> {
            Neonworks shop = new Neonworks();
            for (int i = 0; i < 12; i++) {
                same("mark", shop.mark(i, i), i + 1);
            }
            Check.fails("the thirteenth", FULL, () -> shop.mark(0, 0));
            same("the z of a tube does not matter", trace(marked(withTube("uuu", 3, 4), 3, 4)), "1: 0 0");
        });
        says("A tube, moved by some x and y, fits a mark if one of its places comes to it", () -> {
            same("its first place", trace(marked(withTube("eee", 0, 0), 0, 5, 3, 5)), "2: 0 5");
            same("its last place", trace(marked(withTube("eee", 0, 0), 3, 0)), "1: 0 0");
            same("just behind its last place", trace(marked(withTube("eee", 0, 0), 4, 0)), "1: 1 0");
            same("too far from each other", trace(marked(withTube("eee", 0, 0), 0, 0, 4, 0)), "1: 0 0");
            // No two places of an angle are 1 to the east and 1 to the south of each other.
            same("none of its places", trace(marked(withTube("eenn", -7, 9), -7, 9, -6, 8)), "1: 0 0");
            same("between its ends", trace(marked(withTube("eenn", -7, 9), -7, 9, -6, 10)), "2: -1 0");
            same("far to both sides", trace(marked(withTube("wwss", 400, -300), -500, 500, -498, 500, -500, 498)), "3: -898 800");
            Neonworks shop = withTube("eeeeeeee", 0, 0);
            Make.tube(shop, 8, "eenn", 0, 0, 0);
            marked(shop, 0, 0, 1, -1);
            same("where another tube went", shop.fits(0) + " " + shop.fits(1), "1 1");
            same("the ends of the widest one", trace(marked(withTube(Make.runs("e30n30"), 0, 0), 0, 0, 30, 30)), "2: 0 0");
            same("a corner", trace(marked(withTube("een", 0, 0), 10, 10, 12, 11)), "2: 10 10");
        });
    }

    private static void termsOfTraces() {
        of(0);
        says("its trace is the move by which it fits most marks, of several that with the least amounts of both together, "
                + "then the lesser x, then the lesser y", () -> {
            same("most marks", trace(marked(withTube("eee", 0, 0), 0, 0, 400, 400, 401, 400, 402, 400)), "3: 399 400");
            same("the least amounts", trace(marked(withTube("eee", 0, 0), -2, 3)), "1: -2 3");
            // Moves by 3 and 0, and by 2 and 2, come to the mark.
            same("of both together", trace(marked(withTube("sse", -3, 0), 0, 0)), "1: 3 0");
            same("amounts, not numbers", trace(marked(withTube("e", 0, 0), -7, 0)), "1: -7 0");
            // The mark lies in the middle of a ring: moves by one to all sides come to it.
            same("then the lesser x", trace(marked(withTube("eennwws", -1, -1), 0, 0)), "1: -1 0");
            same("then the lesser y", trace(marked(withTube("eennww", 0, -1), 0, 0)), "1: 0 -1");
            // Moves by 0 and 1, and by 1 and 0.
            same("the lesser x ahead of the lesser y", trace(marked(withTube("wwnnne", 1, -1), 0, 0)), "1: 0 1");
        });
    }

    private static void termsOfKeeping() {
        of(0);
        says("What is kept of an old tube is told as units", () -> {
            same("none of 4", withTube("eeee", 0, 0).keep(0, 0, 0), false);
            same("4 of 4", withTube("eeee", 0, 0).keep(0, 4, 0), true);
            Check.fails("5 of 4", WRONG, () -> withTube("eeee", 0, 0).keep(0, 5, 0));
        });
        says("it is electrified without lying if at least half is kept, and it has no coat that it did not have", () -> {
            same("just half of 4", withTube("eeee", 0, 0).keep(0, 2, 0), true);
            same("less than half of 4", withTube("eeee", 0, 0).keep(0, 1, 0), false);
            same("2 of 5", withTube("eeeee", 0, 0).keep(0, 2, 0), false);
            same("3 of 5", withTube("eeeee", 0, 0).keep(0, 3, 0), true);
            same("1 of 1", withTube("e", 0, 0).keep(0, 1, 0), true);
            same("0 of 1", withTube("e", 0, 0).keep(0, 0, 0), false);
            for (int coat = 0; coat <= 5; coat++) {
                for (int had = 0; had <= 5; had++) {
                    Neonworks shop = withTube("e", 0, 0);
                    shop.setCoat(0, coat);
                    same(coat + " where it had " + had, shop.keep(0, 1, had), coat == 0 || coat == had);
                }
            }
        });
    }

    private static void marking() {
        of(48);
        says("`x`: -500 to 500", () -> takes(-500, 500, Make::shop, (shop, x) -> shop.mark(x, 0)));
        says("`y`: -500 to 500", () -> takes(-500, 500, Make::shop, (shop, y) -> shop.mark(0, y)));
        says("Returns how many there are.", () -> {
            same("the first", new Neonworks().mark(0, 0), 1);
            same("the third", Make.shop().mark(0, 0), 3);
            same("the twelfth", marked(new Neonworks(), new int[22]).mark(0, 0), 12);
        });
        says("Throws `IllegalArgumentException` if a number is out of range", () -> {
            refuses(-500, 500, Make::shop, (shop, x) -> shop.mark(x, 0));
            refuses(-500, 500, Make::shop, (shop, y) -> shop.mark(0, y));
            refuses(-500, 500, OldSignEdges::fullOfMarks, (shop, y) -> shop.mark(0, y));
        });
        says("Throws `IllegalStateException` if there are 12", () ->
                refused("the thirteenth", FULL, OldSignEdges::fullOfMarks, shop -> shop.mark(0, 0)));
    }

    private static void fitting() {
        of(49);
        says("`tube`: the number of the tube", () -> takesNumbersOf(3, Neonworks::fits));
        says("Returns how many marks the trace of a tube fits.", () -> same("two", Make.shop().fits(1), 2));
        says("Returns the number of marks.", () -> {
            same("without marks", withTube("e", 0, 0).fits(0), 0);
            same("one", marked(withTube("e", 0, 0), 500, -500).fits(0), 1);
            same("all twelve", marked(withTube("e".repeat(11), 0, 0), 0, 0, 1, 0, 2, 0, 3, 0, 4, 0, 5, 0, 6, 0, 7, 0, 8, 0,
                    9, 0, 10, 0, 11, 0).fits(0), 12);
        });
        says("Throws `IndexOutOfBoundsException` if there is no such tube", () -> refusesNumbersFrom(3, Neonworks::fits));
    }

    private static void tracing() {
        of(50);
        says("`tube`: the number of the tube", () -> takesNumbersOf(3, (shop, tube) -> shop.trace(tube, false)));
        says("Returns the trace of a tube.", () -> same("of the shop", trace(Make.shop()), "1: 0 3"));
        says("Returns the move.", () -> {
            Neonworks shop = marked(withTube("e", 500, -500), -500, 500);
            same("by x", shop.trace(0, true), -1000);
            same("by y", shop.trace(0, false), 1000);
        });
        says("Throws `IndexOutOfBoundsException` if there is no such tube", () -> {
            refusesNumbersFrom(3, (shop, tube) -> shop.trace(tube, true));
            refusesNumbersFrom(3, (shop, tube) -> shop.trace(tube, false));
        });
        says("Throws `NoSuchElementException` if there is no mark", () -> {
            refused("by x", MISSING, () -> withTube("e", 0, 0), shop -> shop.trace(0, true));
            refused("by y", MISSING, () -> withTube("e", 0, 0), shop -> shop.trace(0, false));
            same("with a mark", marked(withTube("e", 0, 0), 0, 0).trace(0, true), 0);
        });
    }

    private static void comparing() {
        of(51);
        says("Returns the tube that fits the most marks, of several the lowest number.", () -> {
            Neonworks shop = withTube("eee", 0, 0);
            Make.tube(shop, 8, "nnn", 0, 0, 0);
            Make.tube(shop, 8, "nnn", 200, 0, 0);
            shop.mark(7, 7);
            same("of three", shop.traced(), 0);
            shop.mark(7, 9);
            same("of two", shop.traced(), 1);
            shop.mark(8, 7);
            shop.mark(9, 7);
            same("the first fits more by then", shop.traced(), 0);
        });
        says("Returns the number of the tube.", () -> {
            Neonworks shop = marked(withTube("e", 0, 0), 1, 1, 1, 4);
            Make.tube(shop, 8, "nnn", 0, 0, 0);
            same("the last", shop.traced(), 1);
        });
        says("Throws `NoSuchElementException` if there is no mark, or tube", () -> {
            refused("neither", MISSING, Neonworks::new, Neonworks::traced);
            refused("no mark", MISSING, () -> withTube("e", 0, 0), Neonworks::traced);
            refused("no tube", MISSING, () -> marked(new Neonworks(), 0, 0), Neonworks::traced);
            same("both", marked(withTube("e", 0, 0), 0, 0).traced(), 0);
        });
    }

    private static void keeping() {
        of(52);
        says("`tube`: the number of the tube", () -> takesNumbersOf(3, (shop, tube) -> shop.keep(tube, 0, 0)));
        says("`units`: 0 to its units", () -> {
            takes(0, 4, Make::shop, (shop, units) -> shop.keep(0, units, 0));
            takes(0, 6, Make::shop, (shop, units) -> shop.keep(1, units, 0));
        });
        says("`coat`: 0 to 5", () -> takes(0, 5, Make::shop, (shop, coat) -> shop.keep(1, 6, coat)));
        says("Returns whether it is electrified without lying.", () -> {
            same("coat 3 as it had", Make.shop().keep(1, 3, 3), true);
            same("coat 3 as it had, less than half", Make.shop().keep(1, 2, 3), false);
            same("coat 3 where it had 2", Make.shop().keep(1, 6, 2), false);
        });
        says("Throws `IndexOutOfBoundsException` if there is no such tube", () -> {
            refusesNumbersFrom(3, (shop, tube) -> shop.keep(tube, 0, 0));
            refusesNumbersFrom(3, (shop, tube) -> shop.keep(tube, -1, 6));
        });
        says("Throws `IllegalArgumentException` if a number is out of range", () -> {
            refuses(0, 4, Make::shop, (shop, units) -> shop.keep(0, units, 0));
            refuses(0, 6, Make::shop, (shop, units) -> shop.keep(1, units, 0));
            refuses(0, 5, Make::shop, (shop, coat) -> shop.keep(1, 6, coat));
        });
    }
}
