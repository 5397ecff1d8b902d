import java.util.function.Supplier;

/** Sentences of bending, and of promises 11 to 14. */
final class BendEdges extends Edges {
    // Its third bend can be made behind its fourth alone: else its end would go straight through its first run.
    private static final String SPIRAL = "e5n3w3s2e1n1";
    private static final String STAIR = "enenenene";

    private BendEdges() {
    }

    static void all() {
        termsOfBends();
        termsOfOrders();
        termsOfHeat();
        countingBends();
        tellingOrders();
        tryingOrders();
        refusingOrders();
        heating();
    }

    private static Neonworks bent(String counted) {
        Neonworks shop = new Neonworks();
        Make.tube(shop, 8, Make.runs(counted), 0, 0, 10);
        return shop;
    }

    private static Supplier<Neonworks> maker(String counted) {
        return () -> bent(counted);
    }

    private static String order(Neonworks shop, int tube) {
        StringBuilder all = new StringBuilder();
        for (int i = 0; i < shop.bends(tube); i++) {
            all.append(shop.orderAt(tube, i));
        }
        return all.toString();
    }

    private static void termsOfBends() {
        of(0);
        says("The bends of a tube, numbered from 0 along its path, 8 at most, are made one by one", () -> {
            same("eight", order(bent(STAIR), 0), "01234567");
            Check.fails("nine", REFUSED, () -> bent(STAIR + "n"));
            same("none", order(bent("e"), 0), "");
            same("one", order(bent("en"), 0), "0");
        });
        says("before, glass goes straight on there, and what is behind a bend is turned with it as a whole, as it is "
                + "bent then", () -> {
            // Out of its middle: with the last three bends made, the end, turned as a whole, crosses the straight
            // beginning: s4, w3, n3 and e5 come to (0, -1) again.
            same("the end is bent when it is turned", bent("s1w1n2e3s3w5").canBend(0, 54312), false);
            same("the beginning ahead", bent("s1w1n2e3s3w5").canBend(0, 12345), true);
            // Without its bend out of the wall, the end lies in the plane: e3, n3, w3 and s3 come to (0, 0) again.
            same("out of the wall last", bent("e3n3w2u1s3").canBend(0, 1243), false);
            same("out of the wall ahead of the last one", bent("e3n3w2u1s3").canBend(0, 1234), true);
            same("out of the wall last, the end one shorter", bent("e3n3w2u1s2").canBend(0, 1243), true);
        });
        says("An order can be made if, behind each bend, no place of the whole tube, its first run lying as it will, is "
                + "met twice", () -> {
            same("met on the way", bent(SPIRAL).canBend(0, 12345), false);
            // Without its first bend, u2 and e1 lie in a row, and the end comes to them.
            same("the first run is met", bent("u2e1n1w2s2").canBend(0, 2341), false);
            same("the first run is out of the way", bent("u2e1n1w2s2").canBend(0, 1234), true);
            same("met at no time", bent(SPIRAL).canBend(0, 12435), true);
            // Of e3 n3 w3 s2 the end, a unit of w, would lie on s without its bend: the first place is met then.
            same("the first place is met", bent("e3n3w3s2w1").canBend(0, 1234), false);
            same("it ends just ahead of the first place", bent("e3n3w3s1w1").canBend(0, 1234), true);
        });
        says("the wall, and other tubes, do not matter", () -> {
            // Straight down from z 1 it would go through the wall, and all of it through the other tubes.
            Neonworks shop = new Neonworks();
            Make.tube(shop, 8, "deeeee", 0, 0, 1);
            for (int i = 0; i < 5; i++) {
                Make.tube(shop, 8, "eeennn", 0, i, 1);
            }
            same("through the wall", shop.canBend(0, 1) + " " + order(shop, 0), "true 0");
            for (int i = 1; i <= 5; i++) {
                same("through others", shop.canBend(i, 1) + " " + order(shop, i), "true 0");
            }
        });
    }

    private static void termsOfOrders() {
        of(0);
        says("The order of a tube is the first one that can be made, compared number by number", () -> {
            same("of a stair", order(bent(STAIR), 0), "01234567");
            same("of a spiral", order(bent(SPIRAL), 0), "01324");
            same("none of the orders ahead of it can be made", firstThatCanBeMade(bent(SPIRAL), 5), 12435L);
            same("of another spiral", firstThatCanBeMade(bent("e3n3w3s2w1"), 4), 1243L);
            same("its order", order(bent("e3n3w3s2w1"), 0), "0132");
        });
    }

    /** Of all numbers that tell each bend once, by rising numbers. */
    private static long firstThatCanBeMade(Neonworks shop, int bends) {
        long end = 1;
        for (int i = 0; i < bends; i++) {
            end *= 10;
        }
        for (long told = 1; told < end; told++) {
            if (isWhole(told, bends) && shop.canBend(0, told)) {
                return told;
            }
        }
        return -1;
    }

    private static boolean isWhole(long told, int bends) {
        int seen = 0;
        for (long rest = told; rest > 0; rest /= 10) {
            int digit = (int) (rest % 10);
            if (digit < 1 || digit > bends || (seen >> digit & 1) != 0) {
                return false;
            }
            seen |= 1 << digit;
        }
        return Integer.bitCount(seen) == bends;
    }

    private static void termsOfHeat() {
        of(0);
        says("Its heat is, for each bend made, 10, and 5 more, but for the first one, if the one made just ahead was no "
                + "neighbour along the path", () -> {
            same("of the first one", bent("en").heat(0), 10);
            same("of neighbours", bent("ene").heat(0), 20);
            same("of eight neighbours", bent(STAIR).heat(0), 80);
            same("of 0 1 3 2: one is no neighbour", bent("e3n3w3s2w1").heat(0), 45);
            same("of 0 1 2 3 5 4: one is no neighbour", bent("e1n1e3n3w3s2w1").heat(0), 65);
            same("of 0 1 3 2 4: two are no neighbours", bent(SPIRAL).heat(0), 60);
        });
    }

    private static void countingBends() {
        of(11);
        says("`tube`: the number of the tube", () -> takesNumbersOf(3, Neonworks::bends));
        says("Returns how many bends a tube has.", () -> same("of the second", Make.shop().bends(1), 2));
        says("Returns the number of bends.", () -> {
            for (int runs = 1; runs <= 9; runs++) {
                same("of " + runs + " runs", bent(STAIR.substring(0, runs)).bends(0), runs - 1);
            }
        });
        says("Throws `IndexOutOfBoundsException` if there is no such tube", () -> refusesNumbersFrom(3, Neonworks::bends));
    }

    private static void tellingOrders() {
        of(12);
        says("`tube`: the number of the tube", () -> {
            Neonworks shop = bent(STAIR);
            Make.tube(shop, 8, Make.runs(SPIRAL), 50, 0, 0);
            Make.tube(shop, 8, STAIR, 100, 0, 0);
            same("the third of each", shop.orderAt(0, 2) + " " + shop.orderAt(1, 2) + " " + shop.orderAt(2, 2), "2 3 2");
            same("what one cannot, the next one can", order(shop, 1) + " " + order(shop, 2), "01324 01234567");
        });
        says("`index`: the index, from 0", () -> takes(0, 4, maker(SPIRAL), (shop, index) -> shop.orderAt(0, index)));
        says("Returns the number of the bend.", () -> {
            Neonworks shop = bent(SPIRAL);
            same("the first one", shop.orderAt(0, 0), 0);
            same("the third one", shop.orderAt(0, 2), 3);
            same("the last one", shop.orderAt(0, 4), 4);
        });
        says("Throws `IndexOutOfBoundsException` if there is no such tube", () ->
                refusesNumbersFrom(3, (shop, tube) -> shop.orderAt(tube, -1)));
        says("Throws `NoSuchElementException` if there is no such bend, or no order can be made", () -> {
            for (int index : new int[] {-1, 5, 6, 8, Integer.MIN_VALUE, Integer.MAX_VALUE}) {
                refused("index " + index, MISSING, maker(SPIRAL), shop -> shop.orderAt(0, index));
            }
            refused("without bends", MISSING, maker("e5"), shop -> shop.orderAt(0, 0));
            refused("behind eight", MISSING, maker(STAIR), shop -> shop.orderAt(0, 8));
        });
    }

    private static void tryingOrders() {
        of(13);
        says("`tube`: the number of the tube", () -> takesNumbersOf(3, (shop, tube) -> shop.canBend(tube, tube == 1 ? 12 : 0)));
        says("`order`: the numbers of all bends, each plus 1, as digits, the first one ahead", () -> {
            same("by rising numbers", bent(SPIRAL).canBend(0, 12345), false);
            same("the same digits, read backwards", bent(SPIRAL).canBend(0, 54321), true);
            same("each plus 1", bent("en").canBend(0, 1), true);
            same("eight digits", bent(STAIR).canBend(0, 87654321L), true);
            same("no digit", bent("e").canBend(0, 0), true);
        });
        says("Returns whether they can.", () -> {
            same("they can", bent(SPIRAL).canBend(0, 12435), true);
            same("they cannot", bent(SPIRAL).canBend(0, 12345), false);
        });
        says("Throws `IndexOutOfBoundsException` if there is no such tube", () ->
                refusesNumbersFrom(3, (shop, tube) -> shop.canBend(tube, -7)));
    }

    private static void refusingOrders() {
        of(13);
        says("Throws `IllegalArgumentException` if these are not all bends once each", () -> {
            refused("one is missing", WRONG, maker(SPIRAL), shop -> shop.canBend(0, 1234));
            refused("one too many", WRONG, maker(SPIRAL), shop -> shop.canBend(0, 123456));
            refused("one twice", WRONG, maker(SPIRAL), shop -> shop.canBend(0, 12344));
            refused("one twice, and all", WRONG, maker(SPIRAL), shop -> shop.canBend(0, 123455));
            refused("a 0 at the end", WRONG, maker(SPIRAL), shop -> shop.canBend(0, 12340));
            refused("a 0 behind all", WRONG, maker(SPIRAL), shop -> shop.canBend(0, 123450));
            refused("a 6 in place of a 5", WRONG, maker(SPIRAL), shop -> shop.canBend(0, 12346));
            refused("a 9 in place of an 8", WRONG, maker(STAIR), shop -> shop.canBend(0, 12345679));
            refused("below 0", WRONG, maker(SPIRAL), shop -> shop.canBend(0, -12435));
            refused("none", WRONG, maker(SPIRAL), shop -> shop.canBend(0, 0));
            refused("some, without bends", WRONG, maker("e"), shop -> shop.canBend(0, 1));
            refused("all, plus 2 to the power of 32", WRONG, maker("en"), shop -> shop.canBend(0, (1L << 32) + 1));
            for (long far : new long[] {Long.MIN_VALUE, Long.MAX_VALUE, Integer.MIN_VALUE, 1111111111111111111L}) {
                refused("far", WRONG, maker(SPIRAL), shop -> shop.canBend(0, far));
                refused("far, without bends", WRONG, maker("e"), shop -> shop.canBend(0, far));
            }
        });
    }

    private static void heating() {
        of(14);
        says("`tube`: the number of the tube", () -> takesNumbersOf(3, Neonworks::heat));
        says("Returns the heat, 0 without bends.", () -> {
            same("without bends", bent("e60").heat(0), 0);
            same("of one", bent("en").heat(0), 10);
            same("of five, two of them no neighbours", bent(SPIRAL).heat(0), 60);
        });
        says("Throws `IndexOutOfBoundsException` if there is no such tube", () -> refusesNumbersFrom(3, Neonworks::heat));
        // No path is known whose bends can be made in no order, so that all that is known here is that none throws.
        says("Throws `NoSuchElementException` if no order can be made", () -> {
            for (String counted : new String[] {"e", "en", SPIRAL, STAIR, "e14n6w8s5e7n4w6s3e4", "e3n3w3s2w1"}) {
                Check.runs("heat of " + counted, () -> bent(counted).heat(0));
            }
        });
    }
}
