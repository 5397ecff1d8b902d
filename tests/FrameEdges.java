import java.util.function.Supplier;

/** Sentences of frames, and of promises 42 to 45. */
final class FrameEdges extends Edges {
    private FrameEdges() {
    }

    static void all() {
        termsOfWeights();
        termsOfHolding();
        termsOfReach();
        anchoring();
        holding();
        reaching();
        shining();
    }

    static Neonworks frame(int width, int height) {
        Neonworks shop = new Neonworks();
        shop.sign(width, height);
        return shop;
    }

    /** A frame with anchors, as many in each wall as is told. */
    private static Neonworks anchored(int width, int height, int concrete, int brick, int old) {
        Neonworks shop = frame(width, height);
        anchor(shop, 'c', concrete);
        anchor(shop, 'b', brick);
        anchor(shop, 'o', old);
        return shop;
    }

    private static void anchor(Neonworks shop, char wall, int many) {
        if (many > 0) {
            shop.anchor(0, wall, many);
        }
    }

    /** Hangs tubes of these units on sign 0. */
    private static Neonworks glazed(Neonworks shop, int... units) {
        for (int i = 0; i < units.length; i++) {
            Make.tube(shop, 8, "e".repeat(units[i]), 0, i, 0);
            shop.hang(0, i, 'A');
        }
        return shop;
    }

    private static void termsOfWeights() {
        of(0);
        says("A sign is as wide and high as is told, in units, and has anchors, in a wall of concrete 'c', brick 'b' or old "
                + "brick 'o', which bear 400, 200 or 80 each", () -> {
            same("concrete", frame(10, 10).anchor(0, 'c', 1), 400);
            same("brick", frame(10, 10).anchor(0, 'b', 1), 200);
            same("old brick", frame(10, 10).anchor(0, 'o', 1), 80);
            same("each", frame(10, 10).anchor(0, 'o', 20), 1600);
            // A wind of 20 presses a sign of 100 by 50 with 200.
            same("a wind of 20", anchored(100, 50, 0, 1, 0).holds(0, 20, 0), true);
            same("the same and 1 wider", anchored(125, 50, 0, 1, 0).holds(0, 20, 0), false);
            same("the same and higher", anchored(100, 75, 0, 1, 0).holds(0, 20, 0), false);
        });
        says("Wind of v presses with the width times the height times v times v / 10000", () -> {
            same("just 400", anchored(100, 100, 1, 0, 0).holds(0, 20, 0), true);
            same("441", anchored(100, 100, 1, 0, 0).holds(0, 21, 0), false);
            same("200.08, cut", anchored(41, 122, 0, 1, 0).holds(0, 20, 0), true);
            same("201", anchored(67, 75, 0, 1, 0).holds(0, 20, 0), false);
            same("none", frame(100, 100).holds(0, 0, 0), true);
            same("0.99, cut", frame(10, 99).holds(0, 3, 0), true);
            same("1", frame(10, 100).holds(0, 4, 0), false);
            same("just 40000", pressed(200, 200, 100, 0).holds(0, 100, 0), true);
            same("40200", pressed(201, 200, 100, 2).holds(0, 100, 0), false);
            same("160000, by anchors for 160080", pressed(400, 400, 399, 6).holds(0, 100, 0), true);
            same("160000, by anchors for 160000, less 1", pressed(400, 400, 399, 5).holds(0, 100, 0), false);
        });
        says("ice of some thickness weighs the width plus the height, times it, / 10", () -> {
            same("just 80", anchored(60, 40, 0, 0, 1).holds(0, 0, 8), true);
            same("90", anchored(60, 40, 0, 0, 1).holds(0, 0, 9), false);
            same("80.8, cut", anchored(61, 40, 0, 0, 1).holds(0, 0, 8), true);
            same("just 81", anchored(50, 40, 0, 0, 1).holds(0, 0, 9), false);
            same("none", frame(10, 10).holds(0, 0, 0), true);
            same("2", frame(10, 10).holds(0, 0, 1), false);
        });
    }

    /** A large sign and its many anchors. */
    private static Neonworks pressed(int width, int height, int concrete, int old) {
        Neonworks shop = frame(width, height);
        for (int left = concrete; left > 0; left -= 20) {
            shop.anchor(0, 'c', Math.min(left, 20));
        }
        anchor(shop, 'o', old);
        return shop;
    }

    private static void termsOfHolding() {
        of(0);
        says("glass weighs 1 for each 10 units of each tube, cut", () -> {
            same("9 units", glazed(frame(10, 10), 9).holds(0, 0, 0), true);
            same("10 units", glazed(frame(10, 10), 10).holds(0, 0, 0), false);
            same("9 units each", glazed(frame(10, 10), 9, 9, 9).holds(0, 0, 0), true);
            // Ice of 78, so that glass of 2 is borne.
            same("2 of 38 units", glazed(anchored(60, 70, 0, 0, 1), 19, 19).holds(0, 0, 6), true);
            same("3 of 38 units", glazed(anchored(60, 70, 0, 0, 1), 18, 20).holds(0, 0, 6), false);
            same("a tube that does not hang", hangless().holds(0, 0, 0), true);
        });
        says("It holds if all together are at most what its anchors bear, less 1 if a side of it is longer than 200", () -> {
            same("50, 15 and 15 of 80", glazed(anchored(100, 50, 0, 0, 1), 60, 60, 30).holds(0, 10, 1), true);
            same("50, 15 and 16 of 80", glazed(anchored(100, 50, 0, 0, 1), 60, 60, 40).holds(0, 10, 1), false);
            same("50, 22 and 8 of 80, a side of 200", glazed(anchored(200, 25, 0, 0, 1), 60, 20).holds(0, 10, 1), true);
            same("50, 22 and 8 of 80, the other side", glazed(anchored(25, 200, 0, 0, 1), 60, 20).holds(0, 10, 1), true);
            same("50, 27 and 3 of 80 less 1", glazed(anchored(250, 20, 0, 0, 1), 30).holds(0, 10, 1), false);
            same("50, 27 and 2 of 80 less 1", glazed(anchored(250, 20, 0, 0, 1), 20).holds(0, 10, 1), true);
            same("a side of 201", frame(201, 10).holds(0, 0, 0) + " " + frame(10, 201).holds(0, 0, 0), "false false");
            same("sides of 200", frame(200, 200).holds(0, 0, 0), true);
            same("50, 27 and 3 of 80 less 1, the other side", glazed(anchored(20, 250, 0, 0, 1), 30).holds(0, 10, 1), false);
            // Less 1 in all, not for each anchor, nor for each side: 160, less 1.
            same("159 of 160 less 1", glazed(anchored(250, 250, 0, 0, 2), 60, 30).holds(0, 0, 3), true);
            same("160 of 160 less 1", glazed(anchored(250, 250, 0, 0, 2), 60, 40).holds(0, 0, 3), false);
        });
    }

    private static Neonworks hangless() {
        Neonworks shop = frame(10, 10);
        Make.tube(shop, 8, "e".repeat(60), 0, 0, 0);
        return shop;
    }

    private static void termsOfReach() {
        of(0);
        says("A tube can be reached if no place of another one of the sign, with the same x and y and a greater z, lies over "
                + "one of its own", () -> {
            same("one over it", isReachedBelow(1, 0, 2), false);
            same("just over its first place", isReachedBelow(0, 0, 2), false);
            same("just over its last place", isReachedBelow(4, 0, 2), false);
            same("beside it", isReachedBelow(5, 0, 2), true);
            same("another x", isReachedBelow(-1, 0, 2), true);
            same("another y", isReachedBelow(1, 1, 2), true);
            same("below it", isReachedBelow(1, 0, 0), true);
            same("far over it", isReachedBelow(1, 0, 50), false);
            same("its last place lies over it", isReachedBelow("ss", -300, 205), false);
            same("its last place lies beside it", isReachedBelow("ss", -300, 206), true);
            same("its middle place lies over it", isReachedBelow("en", -301, 203), false);
            same("its middle place lies beside it", isReachedBelow("en", -301, 204), true);
            Neonworks shop = frame(10, 10);
            Make.tube(shop, 8, "eeuuww", 0, 0, 0);
            shop.hang(0, 0, 'A');
            same("over itself", shop.isReached(0), true);
            shop.sign(10, 10);
            Make.tube(shop, 8, "ee", 0, 0, 9);
            same("one that does not hang", shop.isReached(0), true);
            shop.hang(1, 1, 'A');
            same("one of another sign", shop.isReached(0), true);
        });
    }

    /** Whether a tube of five places along x 0 to 4, at y 0 and z 1, is reached below one that comes to a place. */
    private static boolean isReachedBelow(int x, int y, int z) {
        Neonworks shop = frame(10, 10);
        Make.tube(shop, 8, "eeee", 0, 0, 1);
        // It leads away from the tube below, so that its first place alone may lie over that.
        Make.tube(shop, 8, x <= 0 ? "w" : x >= 4 ? "e" : "n", x, y, z);
        shop.hang(0, 0, 'A');
        shop.hang(0, 1, 'B');
        return shop.isReached(0);
    }

    /** Whether a tube of four places at x -300, y 200 to 203, is reached below one that begins at a place. */
    private static boolean isReachedBelow(String letters, int x, int y) {
        Neonworks shop = frame(10, 10);
        Make.tube(shop, 8, "nnn", -300, 200, 1);
        Make.tube(shop, 8, letters, x, y, 3);
        shop.hang(0, 1, 'A');
        shop.hang(0, 0, 'B');
        return shop.isReached(0);
    }

    private static void anchoring() {
        of(42);
        says("`sign`: the number of the sign", () -> takesNumbersOf(2, (shop, sign) -> shop.anchor(sign, 'c', 1)));
        says("`wall`: 'c', 'b' or 'o'", () -> takesLetters("cbo", Make::shop, (shop, wall) -> shop.anchor(0, wall, 1)));
        says("`many`: 1 to 20", () -> takes(1, 20, Make::shop, (shop, many) -> shop.anchor(0, 'c', many)));
        says("Returns what they bear together.", () -> {
            Neonworks shop = frame(10, 10);
            same("the first", shop.anchor(0, 'o', 1), 80);
            same("all", shop.anchor(0, 'b', 2), 480);
            same("all", shop.anchor(0, 'c', 20), 8480);
            shop.sign(10, 10);
            same("those of the other sign", shop.anchor(1, 'o', 2), 160);
        });
        says("Throws `IndexOutOfBoundsException` if there is no such sign", () -> {
            refusesNumbersFrom(2, (shop, sign) -> shop.anchor(sign, 'c', 1));
            refusesNumbersFrom(2, (shop, sign) -> shop.anchor(sign, 'x', 0));
        });
        says("Throws `IllegalArgumentException` if there is no such wall, or number", () -> {
            refusesLettersBut("cbo", Make::shop, (shop, wall) -> shop.anchor(0, wall, 1));
            refuses(1, 20, Make::shop, (shop, many) -> shop.anchor(0, 'o', many));
        });
    }

    private static void holding() {
        Supplier<Neonworks> maker = Make::shop;
        of(43);
        says("`sign`: the number of the sign", () -> takesNumbersOf(2, (shop, sign) -> shop.holds(sign, 0, 0)));
        says("`wind`: 0 to 100", () -> takes(0, 100, maker, (shop, wind) -> shop.holds(0, wind, 0)));
        says("`ice`: 0 to 100", () -> takes(0, 100, maker, (shop, ice) -> shop.holds(0, 0, ice)));
        says("Returns whether it does.", () -> {
            same("it does", anchored(200, 200, 1, 0, 0).holds(0, 10, 0), true);
            same("a side is longer than 200, just 1 too much", anchored(400, 100, 1, 0, 0).holds(0, 10, 0), false);
            same("the other side", anchored(100, 400, 1, 0, 0).holds(0, 10, 0), false);
            same("longer, 199 of 200 less 1", anchored(249, 80, 0, 1, 0).holds(0, 10, 0), true);
            same("longer, 200 of 200 less 1", anchored(250, 80, 0, 1, 0).holds(0, 10, 0), false);
            same("not longer, 200 of 200", anchored(200, 100, 0, 1, 0).holds(0, 10, 0), true);
            same("without anchors and weight", frame(200, 200).holds(0, 0, 0), true);
            same("without anchors and weight, a long side", frame(201, 10).holds(0, 0, 0), false);
        });
        says("Throws `IndexOutOfBoundsException` if there is no such sign", () -> {
            refusesNumbersFrom(2, (shop, sign) -> shop.holds(sign, 0, 0));
            refusesNumbersFrom(2, (shop, sign) -> shop.holds(sign, -1, 101));
        });
        says("Throws `IllegalArgumentException` if a number is out of range", () -> {
            refuses(0, 100, maker, (shop, wind) -> shop.holds(0, wind, 0));
            refuses(0, 100, maker, (shop, ice) -> shop.holds(0, 0, ice));
        });
    }

    private static void reaching() {
        of(44);
        says("`tube`: the number of the tube", () -> takesNumbersOf(3, Neonworks::isReached));
        says("Returns whether it can, also without a sign.", () -> {
            same("it can", isReachedBelow(5, 0, 2), true);
            same("it cannot", isReachedBelow(4, 0, 2), false);
            Neonworks shop = new Neonworks();
            Make.tube(shop, 8, "ee", 0, 0, 0);
            Make.tube(shop, 8, "ee", 0, 0, 1);
            same("without a sign", shop.isReached(0) + " " + shop.isReached(1), "true true");
            shop.sign(10, 10);
            shop.hang(0, 1, 'A');
            same("the other one hangs", shop.isReached(0) + " " + shop.isReached(1), "true true");
        });
        says("Throws `IndexOutOfBoundsException` if there is no such tube", () -> refusesNumbersFrom(3, Neonworks::isReached));
    }

    private static void shining() {
        of(0);
        says("The light of a sign is the sum of all parts of all units of tubes that light by themselves, by night, rows and "
                + "cams aside", () -> {
            Neonworks shop = frame(10, 10);
            Make.bright(shop, 0, 'n');
            shop.hang(0, 0, 'A');
            same("in no row, and not wired", shop.lightOf(0), 4 * 335);
            shop.black(0, 0, 1);
            same("a unit is black", shop.lightOf(0), 3 * 335);
            Make.bright(shop, 1, 'a');
            same("one that does not hang", shop.lightOf(0), 3 * 335);
            shop.hang(0, 1, 'B');
            same("of both", shop.lightOf(0), 3 * 335 + 4 * 415);
            shop.transformer(100);
            shop.load(0, 1);
            same("its row does not light", shop.rowLights(0) + " " + shop.lightOf(0), "false " + (3 * 335 + 4 * 415));
            shop.cam(1, 0);
            shop.wire(0, 'd', 0, 0);
            same("its cam is off", shop.lightOf(0), 3 * 335 + 4 * 415);
            Make.tube(shop, 8, "e", 0, 9, 0);
            shop.fill(2, 'n', 16);
            shop.hang(0, 2, 'C');
            same("one does not light", shop.lightOf(0), 3 * 335 + 4 * 415);
        });
        of(45);
        says("`sign`: the number of the sign", () -> takesNumbersOf(2, Neonworks::lightOf));
        says("Returns the light of a sign by night.", () -> same("of the shop", Make.shop().lightOf(0), 3 * 335));
        says("Returns the sum.", () -> {
            same("of an empty sign", frame(10, 10).lightOf(0), 0);
            Neonworks shop = frame(10, 10);
            for (int i = 0; i < 7; i++) {
                Make.tube(shop, 8, "e".repeat(60), 0, i, 0);
                shop.setCoat(i, 1);
                Make.lightUp(shop, i, 8, 'a');
                shop.hang(0, i, 'A');
            }
            same("of much", shop.lightOf(0), 7 * 60 * 690);
        });
        says("Throws `IndexOutOfBoundsException` if there is no such sign", () -> refusesNumbersFrom(2, Neonworks::lightOf));
    }
}
