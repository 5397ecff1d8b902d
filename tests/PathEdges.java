/** Sentences of paths and copies, and of promises 1 to 5. */
final class PathEdges extends Edges {
    private PathEdges() {
    }

    static void all() {
        termsOfPaths();
        termsOfRuns();
        termsOfCopies();
        newObject();
        typing();
        judging();
        copying();
    }

    private static char judge(String counted, int width) {
        return Make.typed(Make.runs(counted)).judge(width);
    }

    private static char copied(String counted) {
        return Make.typed(Make.runs(counted)).copied();
    }

    private static void termsOfPaths() {
        of(0);
        says("A path is a text of at most 60 letters", () -> {
            Neonworks shop = Make.typed("e".repeat(59));
            same("the 60th", shop.type('e'), 60);
            Check.fails("the 61st", FULL, () -> shop.type('e'));
            same("it has 60", shop.erase(), 60);
        });
        says("'e' and 'w' go to greater and lesser x, 'n' and 's' to greater and lesser y, 'u' and 'd' out of the wall, "
                + "to greater z, and toward it, each by one unit, a tenth of a metre being 10 units", () -> {
            String[] ways = {"e 1 0 0", "w -1 0 0", "n 0 1 0", "s 0 -1 0", "u 0 0 1", "d 0 0 -1"};
            for (String way : ways) {
                Neonworks shop = new Neonworks();
                Make.tube(shop, 8, way.substring(0, 1), 0, 0, 1);
                String[] moved = way.split(" ");
                same("x by " + way, shop.at(0, 1, 'x'), Integer.parseInt(moved[1]));
                same("y by " + way, shop.at(0, 1, 'y'), Integer.parseInt(moved[2]));
                same("z by " + way, shop.at(0, 1, 'z'), 1 + Integer.parseInt(moved[3]));
            }
        });
        says("A place is where a path comes to, its beginning too", () -> {
            Neonworks shop = new Neonworks();
            Make.tube(shop, 8, "en", 7, 8, 9);
            same("the beginning", shop.at(0, 0, 'x') + " " + shop.at(0, 0, 'y') + " " + shop.at(0, 0, 'z'), "7 8 9");
            same("the end", shop.at(0, 2, 'x') + " " + shop.at(0, 2, 'y') + " " + shop.at(0, 2, 'z'), "8 9 9");
            Make.tube(shop, 8, "n", 7, 7, 9);
            same("beginnings meet ends", shop.meet(0, 1), true);
        });
        says("A letter that is unlike the one ahead of it is a bend", () -> {
            for (String path : new String[] {"e 0", "eee 0", "en 1", "een 1", "enn 1", "ene 2", "eu 1", "eenneeuuwwd 5"}) {
                String letters = path.substring(0, path.indexOf(' '));
                Neonworks shop = Make.typed(letters);
                shop.tube(8, 0, 0, 10);
                same("bends of " + path, shop.bends(0), Integer.parseInt(path.substring(path.indexOf(' ') + 1)));
            }
        });
        says("one of the opposite way cannot follow", () -> {
            for (String pair : new String[] {"ew", "we", "ns", "sn", "ud", "du"}) {
                same(pair, judge(pair, 8), 'o');
                same("late " + pair, judge(pair.substring(1) + (pair.charAt(0) == 'n' || pair.charAt(0) == 's' ? "e" : "n")
                        + pair, 8), 'o');
            }
            same("opposite, not following at once", judge("e2n1w2", 8), 'g');
        });
    }

    private static void termsOfRuns() {
        of(0);
        says("A run is a row of like letters", () -> {
            same("of two", judge("en2e", 10), 'g');
            same("two of one each, not a row", judge("ene", 10), 'r');
            same("a row of three", judge("en3e", 15), 'g');
        });
        says("inner runs have a bend on both sides", () -> {
            same("the first and the last run may be short", judge("en", 15), 'g');
            same("with an inner one that is long", judge("en3e", 15), 'g');
            same("the inner one is short", judge("e3n2e3", 15), 'r');
            same("without a bend", judge("e", 15), 'g');
        });
        says("A tube has a width, 8, 10, 12 or 15", () -> {
            for (int width = -20; width <= 40; width++) {
                int asked = width;
                if (width == 8 || width == 10 || width == 12 || width == 15) {
                    same("width " + width, Make.typed("e").tube(width, 0, 0, 0), 0);
                } else {
                    Check.fails("width " + width, WRONG, () -> Make.typed("e").tube(asked, 0, 0, 0));
                }
            }
        });
        says("its inner runs are at least 1, 2, 2 or 3 long", () -> {
            int[] widths = {8, 10, 12, 15};
            int[] least = {1, 2, 2, 3};
            for (int i = 0; i < 4; i++) {
                for (int units = 1; units <= 4; units++) {
                    char due = units < least[i] ? 'r' : 'g';
                    same(units + " for " + widths[i], judge("e4n" + units + "e4", widths[i]), due);
                    same(units + " behind " + widths[i], judge("e4n4e" + units + "n4", widths[i]), due);
                }
            }
        });
        says("A tube does not meet itself: all its places are unlike", () -> {
            same("it comes to its first place", judge("e2n2w2s2", 8), 'm');
            same("it ends just beside it", judge("e2n2w2s1", 8), 'g');
            same("it crosses itself", judge("e3n3w2s4", 8), 'm');
            same("its last place alone meets", judge("e3n3w2s3", 8), 'm');
            same("one unit less", judge("e3n3w2s2", 8), 'g');
            same("over itself, out of the wall", judge("e2n2u1w2s2", 8), 'g');
            same("over itself, and back", judge("e2n2u1w2s2d1", 8), 'm');
        });
    }

    private static void termsOfCopies() {
        of(0);
        says("A path looks like plastic by signs: some inner run, if it has two bends or more, is less than 3 long", () -> {
            same("of 2, with flat", copied("en2e"), 'd');
            same("of 3", copied("en3e"), 'g');
            same("of 3 and of 2", copied("en3e2n"), 'd');
            // A stair is flat, but to both sides; of one bend no run is an inner one.
            same("one bend, flat and to one side alone", copied("en"), 'd');
            same("no bend", copied("e"), 'g');
        });
        says("it has no 'u' and no 'd'", () -> {
            same("neither", copied("en2e"), 'd');
            same("a 'u' at its end", copied("en2eu"), 'g');
            same("a 'd' at its end", copied("en2ed"), 'g');
            same("a 'u' at its beginning", copied("uen2e"), 'g');
            Neonworks shop = Make.typed("ennuenn");
            shop.erase();
            same("a 'u' that was erased", Make.typed(shop, "enn").copied(), 'd');
            same("a 'u' that is the 60th", copied("en2e56u"), 'g');
        });
        says("it has 10 bends or more", () -> {
            same("9", copied("e3n3e3n3e3n3e3n3e3n3"), 'g');
            same("10", copied("e3n3e3n3e3n3e3n3e3n3e3"), 'd');
            same("11", copied("e3n3e3n3e3n3e3n3e3n3e3n3"), 'd');
        });
        says("it has bends in the plane of x and y, and all of them to one side as seen from out", () -> {
            same("to the left", copied("en3w3u3"), 'g');
            same("flat, to the left", copied("en3w"), 'd');
            same("flat, to the right", copied("es3w"), 'd');
            same("flat, one bend to the left", copied("en"), 'd');
            same("flat, one bend to the right", copied("es"), 'd');
            same("flat, to both", copied("en3e"), 'g');
            same("flat, to both, the right ahead", copied("es3e"), 'g');
            same("flat, without a bend", copied("e9"), 'g');
            same("bends out of the plane alone, and a short run", copied("eu2e"), 'g');
            same("one in the plane, and a short run", copied("eu2en"), 'd');
            for (char ahead : "ewns".toCharArray()) {
                for (char out : "ud".toCharArray()) {
                    for (char behind : "ewns".toCharArray()) {
                        String path = ahead + "" + out + "2" + behind;
                        same("out of the plane, and back to it, and a short run: " + path, copied(path), 'g');
                    }
                }
            }
        });
        says("Of three or four of these it is a copy, of two doubtful", () -> {
            same("none", copied("e3u3n3"), 'g');
            same("one", copied("e3"), 'g');
            same("two", copied("e3n3"), 'd');
            same("three", copied("e3n2w3"), 'p');
            same("four", copied("e3n3w3s3e3n3w3s3e3n2w3"), 'p');
        });
    }

    private static void newObject() {
        of(1);
        // This promise has no line of the kinds that are looked up; its one sentence is cut in two.
        says("Creates a shop without tubes, with an empty path", () -> {
            Neonworks shop = new Neonworks();
            Check.fails("the first tube", NONE, () -> shop.units(0));
            same("units of all", shop.allUnits(), 0);
            same("the path", shop.judge(8), '-');
            same("its letters", shop.erase(), 0);
            Check.fails("a sign", NONE, () -> shop.wet(0, true));
            Check.fails("a transformer", NONE, () -> shop.loadOf(0));
            Check.fails("a cam", NONE, () -> shop.stick(0, '-'));
            same("marks", shop.mark(0, 0), 1);
            for (int day = 0; day <= 30; day++) {
                same("rain on " + day, shop.rain(day, false), false);
            }
        });
        says("in the year 0", () -> same("year", new Neonworks().year(), 0));
    }

    private static void typing() {
        of(2);
        says("`letter`: 'e', 'w', 'n', 's', 'u' or 'd'", () -> takesLetters("ewnsud", Make::shop, Neonworks::type));
        says("Returns how many it has.", () -> {
            Neonworks shop = new Neonworks();
            for (int i = 1; i <= 60; i++) {
                same("letter " + i, shop.type("ewnsud".charAt(i % 6)), i);
            }
            shop.erase();
            same("the first behind erasing", shop.type('w'), 1);
        });
        says("Throws `IllegalArgumentException` if there is no such letter", () -> {
            refusesLettersBut("ewnsud", Make::shop, Neonworks::type);
            refused("no letter for a full path", WRONG, () -> Make.typed("e".repeat(60)), shop -> shop.type('x'));
        });
        says("Throws `IllegalStateException` if it has 60", () -> {
            for (char letter : "ewnsud".toCharArray()) {
                refused("letter " + letter, FULL, () -> Make.typed("e".repeat(60)), shop -> shop.type(letter));
            }
            same("59 are no reason", Make.typed("e".repeat(59)).type('n'), 60);
        });
        of(3);
        says("Returns how many there were.", () -> {
            for (int many : new int[] {0, 1, 2, 59, 60}) {
                Neonworks shop = Make.typed("s".repeat(many));
                same("of " + many, shop.erase(), many);
                same("then", shop.erase(), 0);
                same("the path is empty then", shop.judge(8), '-');
            }
        });
    }

    private static void judging() {
        of(4);
        says("`width`: 8, 10, 12 or 15", () -> {
            for (int width : new int[] {8, 10, 12, 15}) {
                Check.runs("width " + width, () -> Make.shop().judge(width));
            }
        });
        says("Returns '-' it is empty, 'o' opposite letters follow, 'b' more than 8 bends, 'r' an inner run is too "
                + "short, 'm' it meets itself, 'g' it is good, the first one that holds.", () -> {
            same("empty", new Neonworks().judge(15), '-');
            same("opposite", judge("ew", 8), 'o');
            same("8 bends", judge("enenenene", 8), 'g');
            same("9 bends", judge("enenenenen", 8), 'b');
            same("a short run", judge("e2n1e2", 10), 'r');
            same("it meets itself", judge("e2n2w2s2", 8), 'm');
            same("opposite, ahead of bends, short runs and meeting", judge("enenenenenew", 15), 'o');
            same("bends, ahead of short runs and meeting", judge("e1n1w1s1e1n1w1s1e1n1", 15), 'b');
            same("a short run, ahead of meeting", judge("e2n2w2s2", 15), 'r');
            same("a short run behind the place where it meets", judge("e3n3w3s4e1n3", 15), 'r');
        });
        says("Throws `IllegalArgumentException` if there is no such width", () -> {
            for (int width : new int[] {7, 9, 11, 13, 14, 16, 0, -8, 80, 264, Integer.MIN_VALUE, Integer.MAX_VALUE}) {
                refused("width " + width, WRONG, Make::shop, shop -> shop.judge(width));
                refused("width " + width + " of no path", WRONG, Neonworks::new, shop -> shop.judge(width));
            }
        });
    }

    private static void copying() {
        of(5);
        says("Returns 'p' a copy, 'd' doubtful, 'g' glass.", () -> {
            same("a copy", copied("en2w"), 'p');
            same("doubtful", copied("en3w"), 'd');
            same("glass", copied("en3e"), 'g');
        });
        says("Throws `UnsupportedOperationException` if it is empty", () -> {
            refused("empty", REFUSED, Neonworks::new, Neonworks::copied);
            refused("erased", REFUSED, PathEdges::erased, Neonworks::copied);
            same("of one letter", copied("e"), 'g');
        });
    }

    private static Neonworks erased() {
        Neonworks shop = Make.shop();
        shop.erase();
        return shop;
    }
}
