/** Sentences of cams, relays and lit tubes, and of promises 32 to 35. */
final class CamEdges extends Edges {
    private CamEdges() {
    }

    static void all() {
        termsOfCams();
        termsOfFaults();
        termsOfLitTubes();
        makingCams();
        wiring();
        refusingToWire();
        sticking();
        lighting();
    }

    /** The seconds from 0 in which a tube that is wired straight to the cam is lit, as digits. */
    private static String seconds(int period, int bits, char how, int many) {
        Neonworks shop = SignEdges.signOf("A", period, bits);
        shop.stick(0, how);
        StringBuilder all = new StringBuilder();
        for (int i = 0; i < many; i++) {
            all.append(shop.isLit(0, i) ? '1' : '0');
        }
        return all.toString();
    }

    private static Neonworks fullOfCams() {
        Neonworks shop = new Neonworks();
        for (int i = 0; i < 8; i++) {
            shop.cam(2, 1);
        }
        return shop;
    }

    private static void termsOfCams() {
        of(0);
        says("At most 8 cams are numbered from 0, each with a period, 1 to 12 seconds, and bits: in the second t, it is on "
                + "if it has the bit t modulo its period", () -> {
            Neonworks shop = new Neonworks();
            for (int i = 0; i < 8; i++) {
                same("number", shop.cam(1, 0), i);
            }
            Check.fails("the ninth", FULL, () -> shop.cam(1, 0));
            same("of 1", seconds(1, 1, '-', 4), "1111");
            same("of 1, no bit", seconds(1, 0, '-', 4), "0000");
            same("of 3, the bits 0 and 1", seconds(3, 0b011, '-', 8), "11011011");
            same("of 5, the last bit", seconds(5, 0b10000, '-', 11), "00001000010");
            same("of 12, the first and the last bit", seconds(12, 0b100000000001, '-', 14), "10000000000110");
        });
    }

    private static void termsOfFaults() {
        of(0);
        says("A cam can be stuck: on, off, or late by a second, being as it is meant in the second ahead, in the second 0 "
                + "as in the last one of its period", () -> {
            same("on", seconds(3, 0, '1', 5), "11111");
            same("off", seconds(3, 7, '0', 5), "00000");
            same("late", seconds(3, 0b001, 'l', 7), "0100100");
            same("late, in the second 0", seconds(3, 0b100, 'l', 7), "1001001");
            same("late, of 1", seconds(1, 1, 'l', 3), "111");
            same("late, of 12", seconds(12, 0b100000000000, 'l', 13), "1000000000001");
            same("not stuck", seconds(3, 0b001, '-', 7), "1001001");
            Neonworks shop = SignEdges.signOf("A", 12, 1 << 6);
            // 2147483647 modulo 12 is 7.
            same("in the last second there is", shop.isLit(0, Integer.MAX_VALUE), false);
            shop.stick(0, 'l');
            same("late in the last second there is", shop.isLit(0, Integer.MAX_VALUE), true);
        });
    }

    private static void termsOfLitTubes() {
        of(0);
        says("A tube is lit in a second if its relay says so, and it lights by its row", () -> {
            Neonworks shop = SignEdges.signOf("A", 2, 1);
            same("its relay says so", shop.isLit(0, 0), true);
            same("its relay does not", shop.isLit(0, 1), false);
            Make.tube(shop, 8, "e", 0, 50, 0);
            shop.load(0, 1);
            same("its row does not light", shop.isLit(0, 0), false);
            shop.wire(1, 'd', 0, 0);
            same("it does not light itself", shop.isLit(1, 0), false);
        });
        says("one in no row does not", () -> {
            Neonworks shop = SignEdges.signOf("A", 1, 1);
            Make.bright(shop, 20, 'a');
            shop.wire(1, 'd', 0, 0);
            same("in no row", shop.stateOf(1) + " " + shop.isLit(1, 0), "l false");
            shop.load(0, 1);
            same("in a row", shop.isLit(1, 0), true);
        });
    }

    private static void makingCams() {
        of(32);
        says("`period`: 1 to 12", () -> takes(1, 12, Make::shop, (shop, period) -> shop.cam(period, 0)));
        says("`bits`: 0 to less than 2 to the power of the period", () -> {
            for (int period = 1; period <= 12; period++) {
                int asked = period;
                takes(0, (1 << period) - 1, Make::shop, (shop, bits) -> shop.cam(asked, bits));
            }
        });
        says("Returns the number of the cam.", () -> {
            same("of the first", new Neonworks().cam(1, 0), 0);
            same("of the third", Make.shop().cam(1, 0), 2);
        });
        says("Throws `IllegalArgumentException` if a number is out of range", () -> {
            refuses(1, 12, Make::shop, (shop, period) -> shop.cam(period, 0));
            refuses(1, 12, CamEdges::fullOfCams, (shop, period) -> shop.cam(period, 0));
            for (int period = 1; period <= 12; period++) {
                int asked = period;
                refuses(0, (1 << period) - 1, Make::shop, (shop, bits) -> shop.cam(asked, bits));
            }
            for (int period : new int[] {31, 32, 33, 64}) {
                refused("a period of " + period, WRONG, Make::shop, shop -> shop.cam(period, 1));
            }
        });
        says("Throws `IllegalStateException` if there are 8", () ->
                refused("the ninth", FULL, CamEdges::fullOfCams, shop -> shop.cam(1, 1)));
    }

    private static void wiring() {
        of(33);
        says("`tube`: the number of the tube", () -> takesNumbersOf(3, (shop, tube) -> shop.wire(tube, 'd', 0, 0)));
        says("`relay`: 'd', 'n', 'a' or 'o'", () -> takesLetters("dnao", Make::shop, (shop, relay) -> shop.wire(1, relay, 0, 1)));
        says("`cam`: the number of the cam", () -> takesNumbersOf(2, (shop, cam) -> shop.wire(0, 'a', cam, 0)));
        says("`other`: the number of the second cam; of no meaning for d and n", () -> {
            takesNumbersOf(2, (shop, other) -> shop.wire(0, 'a', 0, other));
            for (int other : new int[] {-1, 2, 8, Integer.MIN_VALUE, Integer.MAX_VALUE}) {
                same("straight, with " + other, Make.shop().wire(1, 'd', 0, other), true);
                same("turned, with " + other, Make.shop().wire(1, 'n', 0, other), true);
                Check.fails("both, with " + other, NONE, () -> Make.shop().wire(1, 'a', 0, other));
                Check.fails("any, with " + other, NONE, () -> Make.shop().wire(1, 'o', 0, other));
            }
            // Of two letters that are not lit together, a second cam for d or n would show.
            Neonworks shop = SignEdges.signOf("AB", 2, 1, 2, 2);
            shop.wire(0, 'd', 0, 1);
            shop.wire(1, 'n', 0, 1);
            same("it lights nothing", SignEdges.word(shop, 0) + " " + SignEdges.word(shop, 1), "A B");
        });
        says("Returns whether it was not wired.", () -> {
            Neonworks shop = Make.shop();
            same("it was", shop.wire(0, 'n', 0, 0), false);
            same("it was not", shop.wire(1, 'a', 0, 1), true);
            same("it is by now", shop.wire(1, 'd', 0, 1), false);
        });
    }

    private static void refusingToWire() {
        of(33);
        says("Throws `IndexOutOfBoundsException` if there is no such tube, or cam", () -> {
            for (char relay : "dnao".toCharArray()) {
                refusesNumbersFrom(3, (shop, tube) -> shop.wire(tube, relay, 0, 0));
                refusesNumbersFrom(2, (shop, cam) -> shop.wire(0, relay, cam, 0));
            }
            refusesNumbersFrom(2, (shop, other) -> shop.wire(0, 'a', 0, other));
            refusesNumbersFrom(2, (shop, other) -> shop.wire(0, 'o', 0, other));
            refusesNumbersFrom(3, (shop, tube) -> shop.wire(tube, 'x', 0, 0));
            refusesNumbersFrom(2, (shop, cam) -> shop.wire(0, 'x', cam, 0));
        });
        says("Throws `IllegalArgumentException` if there is no such relay", () ->
                refusesLettersBut("dnao", Make::shop, (shop, relay) -> shop.wire(0, relay, 0, 1)));
    }

    private static void sticking() {
        of(34);
        says("`cam`: the number of the cam", () -> takesNumbersOf(2, (shop, cam) -> shop.stick(cam, '1')));
        says("`how`: '1' on, '0' off, 'l' late, '-' as it is meant", () -> {
            takesLetters("10l-", Make::shop, (shop, how) -> shop.stick(0, how));
            same("on", seconds(4, 0b0010, '1', 5), "11111");
            same("off", seconds(4, 0b0010, '0', 5), "00000");
            same("late", seconds(4, 0b0010, 'l', 5), "00100");
            same("as it is meant", seconds(4, 0b0010, '-', 5), "01000");
        });
        says("Returns how it was.", () -> {
            Neonworks shop = new Neonworks();
            shop.cam(1, 1);
            StringBuilder all = new StringBuilder();
            for (char how : "10l-l01-".toCharArray()) {
                all.append(shop.stick(0, how));
            }
            same("one by one", all.toString(), "-10l-l01");
        });
        says("Throws `IndexOutOfBoundsException` if there is no such cam", () -> {
            refusesNumbersFrom(2, (shop, cam) -> shop.stick(cam, '1'));
            refusesNumbersFrom(2, (shop, cam) -> shop.stick(cam, 'x'));
        });
        says("Throws `IllegalArgumentException` if there is no such way", () ->
                refusesLettersBut("10l-", Make::shop, (shop, how) -> shop.stick(1, how)));
    }

    private static void lighting() {
        of(35);
        says("`tube`: the number of the tube", () -> takesNumbersOf(3, (shop, tube) -> shop.isLit(tube, 0)));
        says("`second`: the second, from 0", () ->
                takes(0, Integer.MAX_VALUE, Make::shop, (shop, second) -> shop.isLit(0, second)));
        says("Returns whether it is.", () -> {
            Neonworks shop = SignEdges.signOf("A", 2, 1);
            same("it is", shop.isLit(0, 0), true);
            same("it is not", shop.isLit(0, 1), false);
            same("in the second 2147483647", shop.isLit(0, Integer.MAX_VALUE), false);
            same("in the second 2147483646", shop.isLit(0, Integer.MAX_VALUE - 1), true);
            same("one that is not wired", SignEdges.signOf("A").isLit(0, 0), false);
        });
        says("Throws `IndexOutOfBoundsException` if there is no such tube", () -> {
            refusesNumbersFrom(3, (shop, tube) -> shop.isLit(tube, 0));
            refusesNumbersFrom(3, (shop, tube) -> shop.isLit(tube, -1));
        });
        says("Throws `IllegalArgumentException` if the second is less than 0", () -> {
            for (int second : new int[] {-1, -2, -360, Integer.MIN_VALUE}) {
                refused("second " + second, WRONG, Make::shop, shop -> shop.isLit(0, second));
            }
        });
    }
}
