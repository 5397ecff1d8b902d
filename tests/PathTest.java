/** Promises 1 to 5: a new object, typing, erasing, judging and copies. */
public final class PathTest {
    public static void main(String[] args) {
        newObject();
        typing();
        judging();
        judgingWidths();
        firstFaultWins();
        copies();
        Check.end(PathTest.class);
    }

    private static void newObject() {
        Neonworks shop = new Neonworks();
        Check.same("judge of a new shop", shop.judge(8), '-');
        Check.same("year of a new shop", shop.year(), 0);
        Check.same("units of a new shop", shop.allUnits(), 0);
        Check.same("erase of a new shop", shop.erase(), 0);
        Check.fails("units(0)", IndexOutOfBoundsException.class, () -> shop.units(0));
        Check.fails("loadOf(0)", IndexOutOfBoundsException.class, () -> shop.loadOf(0));
        Check.fails("lightOf(0)", IndexOutOfBoundsException.class, () -> shop.lightOf(0));
        Check.fails("stick(0)", IndexOutOfBoundsException.class, () -> shop.stick(0, '-'));
        Check.fails("meanBends", ArithmeticException.class, shop::meanBends);
    }

    private static void typing() {
        Neonworks shop = new Neonworks();
        int typed = 0;
        for (char letter : "ewnsud".toCharArray()) {
            Check.same("type " + letter, shop.type(letter), ++typed);
        }
        for (char letter = 0; letter < 300; letter++) {
            if ("ewnsud".indexOf(letter) < 0) {
                char other = letter;
                Check.fails("type " + (int) letter, IllegalArgumentException.class, () -> shop.type(other));
            }
        }
        Check.same("erase", shop.erase(), 6);
        Check.same("erase again", shop.erase(), 0);
        for (int i = 1; i <= 60; i++) {
            Check.same("type 60 letters", shop.type('e'), i);
        }
        Check.fails("type the 61st", IllegalStateException.class, () -> shop.type('e'));
        Check.fails("a wrong 61st", IllegalArgumentException.class, () -> shop.type('x'));
        Check.same("60 letters are good", shop.judge(15), 'g');
        Check.same("erase 60", shop.erase(), 60);
    }

    private static void judge(String counted, int width, char due) {
        Check.same("judge " + counted + " for " + width, Make.typed(Make.runs(counted)).judge(width), due);
    }

    private static void judging() {
        Neonworks shop = new Neonworks();
        for (int width = -2; width < 40; width++) {
            int asked = width;
            if (width != 8 && width != 10 && width != 12 && width != 15) {
                Check.fails("judge " + width, IllegalArgumentException.class, () -> shop.judge(asked));
            }
        }
        judge("e", 15, 'g');
        for (String pair : new String[] {"ew", "we", "ns", "sn", "ud", "du"}) {
            judge(pair, 8, 'o');
        }
        judge("enenenene", 8, 'g');
        judge("enenenenen", 8, 'b');
        judge("e2n2w2s", 8, 'g');
        judge("e2n2w2s2", 8, 'm');
        judge("e2n2w2s3", 8, 'm');
        judge("e3n2w2s2", 8, 'm');
        judge("e3n2w2s1", 8, 'g');
        judge("e2u2w2d2", 8, 'm');
        judge("d2e2", 8, 'g');
        judge("e2n2w4s2", 8, 'g');
        judge("e2n2u1w4s4d1", 8, 'g');
    }

    private static void judgingWidths() {
        judge("en1e", 8, 'g');
        judge("en1e", 10, 'r');
        judge("en1e", 12, 'r');
        judge("en2e", 10, 'g');
        judge("en2e", 12, 'g');
        judge("en2e", 15, 'r');
        judge("en3e", 15, 'g');
        // Only runs with a bend on both sides are inner ones.
        judge("en", 15, 'g');
        judge("en3en3e", 15, 'r');
        judge("en3e3n", 15, 'g');
        judge("en3e3n2e", 15, 'r');
    }

    private static void firstFaultWins() {
        judge("enenenenenw2e", 15, 'o');
        judge("e2n1w2s1e2n1w2s1e2n1", 15, 'b');
        judge("e2n2w2s2", 15, 'r');
        judge("e2n2w2s2", 12, 'm');
        Neonworks shop = Make.typed("ew");
        Check.same("judging changes nothing", "" + shop.judge(8) + shop.judge(8) + shop.erase(), "oo2");
    }

    private static void copied(String counted, char due) {
        Check.same("copied " + counted, Make.typed(Make.runs(counted)).copied(), due);
    }

    private static void copies() {
        Check.fails("copied of nothing", UnsupportedOperationException.class, () -> new Neonworks().copied());
        // Flat alone.
        copied("e", 'g');
        copied("en3e3s", 'g');
        copied("en3es", 'd');
        // Flat, and bends to one side.
        copied("en", 'd');
        copied("es", 'd');
        copied("en3w", 'd');
        copied("es3w", 'd');
        // Flat, and a short inner run.
        copied("en2e", 'd');
        copied("en3e", 'g');
        // Flat, to one side, and a short inner run.
        copied("en2w", 'p');
        copied("es1w", 'p');
        // An up or down takes the flat sign away.
        copied("en2wu", 'd');
        copied("uen2w", 'd');
        copied("en3w3d", 'g');
        copied("en3wd", 'd');
        copied("e3u3e", 'g');
        copied("e3u2e", 'g');
        copied("e3u3n3e", 'g');
        // Bends out of the plane of x and y are to no side.
        copied("enu", 'd');
        copied("end", 'd');
        copied("eun", 'g');
        copied("edn", 'g');
        // Many bends.
        copied("e3n3e3n3e3n3e3n3e3n3e", 'd');
        copied("e3n3e3n3e3n3e3n3e3n", 'g');
        copied("e3n3e3n3e3n3e3n3e3n2e", 'p');
        copied("e3n3e3n3e3n3e3n3e3u3e", 'g');
        copied("e3n3e3n3e3n3e3n3u2n3e", 'd');
        // A round of ten bends to one side, not flat.
        copied("e3n3w3s3e3n3w3s3e3n3w", 'p');
        copied("ue3n3w3s3e3n3w3s3e3n3", 'd');
        copied("ue3n3w3s3e3n3w3s3e3", 'g');
        copied("uen3w3s3e3n3w3s3e3n3", 'p');
        copied("ue1n2w3s3e3n3w3s3e3n3", 'p');
        // Opposite letters are a bend, but to no side.
        copied("ns", 'g');
        copied("ew", 'g');
        copied("ud", 'g');
        copied("ens3n", 'p');
        copied("e3n3s3n3s3n3s3n3s3n3s3", 'p');
        copied("e60", 'g');
        Neonworks again = Make.typed("enu");
        again.erase();
        Check.same("erased letters do not matter", Make.typed(again, "en").copied(), 'd');
        Neonworks shop = Make.typed("en");
        Check.same("copied changes nothing", "" + shop.copied() + shop.copied() + shop.erase(), "dd2");
    }
}
