/** Sentences of signs, and of promises 29 to 31. */
final class SignEdges extends Edges {
    private SignEdges() {
    }

    static void all() {
        terms();
        termsOfHanging();
        makingSigns();
        hanging();
        refusingToHang();
        wetting();
    }

    /** A sign 0 with tubes of argon in one row; a tube for each letter. */
    static Neonworks signOf(String letters) {
        Neonworks shop = new Neonworks();
        shop.sign(100, 100);
        shop.transformer(15000);
        for (int i = 0; i < letters.length(); i++) {
            Make.bright(shop, i, 'a');
            shop.load(0, i);
            shop.hang(0, i, letters.charAt(i));
        }
        return shop;
    }

    /** The same, and each tube wired to a cam of its own, of a period and bits as told. */
    static Neonworks signOf(String letters, int... cams) {
        Neonworks shop = signOf(letters);
        for (int i = 0; i < letters.length(); i++) {
            shop.cam(cams[2 * i], cams[2 * i + 1]);
            shop.wire(i, 'd', i, 0);
        }
        return shop;
    }

    static String word(Neonworks shop, int second) {
        StringBuilder all = new StringBuilder();
        for (int i = 0; i < shop.letters(0, second); i++) {
            all.append(shop.letterAt(0, second, i));
        }
        return all.toString();
    }

    static Neonworks meaning(Neonworks shop, String... words) {
        for (String word : words) {
            for (int i = 0; i < word.length(); i++) {
                shop.mean(0, word.charAt(i), i == 0);
            }
        }
        return shop;
    }

    private static Neonworks fullOfSigns() {
        Neonworks shop = new Neonworks();
        for (int i = 0; i < 6; i++) {
            shop.sign(10 + i, 10);
        }
        return shop;
    }

    private static void terms() {
        of(0);
        says("At most 6 signs are numbered from 0", () -> {
            Neonworks shop = new Neonworks();
            for (int i = 0; i < 6; i++) {
                same("number", shop.sign(10, 10), i);
            }
            Check.fails("the seventh", FULL, () -> shop.sign(10, 10));
            same("the last", shop.lightOf(5), 0);
            Check.fails("sign 6", NONE, () -> shop.lightOf(6));
        });
        says("The word of a sign in a second are the letters of its lit tubes, in their order", () -> {
            Neonworks shop = signOf("OPEN", 1, 1, 2, 1, 2, 2, 1, 1);
            same("in the second 0", word(shop, 0), "OPN");
            same("in the second 1", word(shop, 1), "OEN");
            shop.stick(0, '0');
            same("the first one is dark", word(shop, 1), "EN");
            Neonworks turned = new Neonworks();
            turned.sign(10, 10);
            turned.transformer(15000);
            turned.cam(1, 1);
            for (int i = 0; i < 3; i++) {
                Make.bright(turned, i, 'a');
                turned.load(0, i);
                turned.wire(i, 'd', 0, 0);
            }
            turned.hang(0, 2, 'A');
            turned.hang(0, 0, 'B');
            turned.hang(0, 1, 'A');
            same("their order on the sign", word(turned, 0), "ABA");
        });
    }

    private static void termsOfHanging() {
        of(0);
        says("A tube hangs on one sign at most, behind those that hang there, with a letter, and is wired to a cam, by a "
                + "relay: 'd' straight, 'n' turned about, or with a second cam 'a' both, 'o' any", () -> {
            Neonworks shop = signOf("ABCD");
            shop.sign(10, 10);
            Check.fails("a second sign", REFUSED, () -> shop.hang(1, 0, 'A'));
            shop.cam(4, 0b0011);
            shop.cam(4, 0b0101);
            for (int i = 0; i < 4; i++) {
                shop.wire(i, "dnao".charAt(i), 0, 1);
            }
            // In the seconds 0 to 3 the cams are on both, the first, the second alone, none.
            same("both on", word(shop, 0), "ACD");
            same("the first on", word(shop, 1), "AD");
            same("the second on", word(shop, 2), "BD");
            same("none on", word(shop, 3), "B");
        });
    }

    private static void makingSigns() {
        of(29);
        says("`width`: 10 to 400", () -> takes(10, 400, Make::shop, (shop, width) -> shop.sign(width, 10)));
        says("`height`: 10 to 400", () -> takes(10, 400, Make::shop, (shop, height) -> shop.sign(400, height)));
        says("Returns its number.", () -> {
            same("of the first", new Neonworks().sign(10, 10), 0);
            same("of the third", Make.shop().sign(10, 10), 2);
        });
        says("Throws `IllegalArgumentException` if a number is out of range", () -> {
            refuses(10, 400, Make::shop, (shop, width) -> shop.sign(width, 10));
            refuses(10, 400, Make::shop, (shop, height) -> shop.sign(10, height));
            refuses(10, 400, SignEdges::fullOfSigns, (shop, width) -> shop.sign(width, 10));
        });
        says("Throws `IllegalStateException` if there are 6", () ->
                refused("the seventh", FULL, SignEdges::fullOfSigns, shop -> shop.sign(10, 10)));
    }

    private static void hanging() {
        of(30);
        says("`sign`: the number of the sign", () -> takesNumbersOf(2, (shop, sign) -> shop.hang(sign, 2, 'A')));
        says("`tube`: the number of the tube", () -> takesNumbersOf(3, (shop, tube) -> shop.hang(1, tube, 'A')));
        says("`letter`: 'A' to 'Z'", () -> takesLetters("ABCDEFGHIJKLMNOPQRSTUVWXYZ", Make::shop,
                (shop, letter) -> shop.hang(1, 2, letter)));
        says("Returns how many hang there.", () -> {
            Neonworks shop = new Neonworks();
            shop.sign(10, 10);
            shop.sign(10, 10);
            for (int i = 0; i < 19; i++) {
                Make.tube(shop, 8, "e", 0, i, 0);
                same("tubes", shop.hang(0, i, 'A'), i + 1);
            }
            Make.tube(shop, 8, "e", 0, 19, 0);
            same("on the other sign", shop.hang(1, 19, 'A'), 1);
        });
    }

    private static void refusingToHang() {
        of(30);
        says("Throws `IndexOutOfBoundsException` if there is no such sign, or tube", () -> {
            refusesNumbersFrom(2, (shop, sign) -> shop.hang(sign, 2, 'A'));
            refusesNumbersFrom(3, (shop, tube) -> shop.hang(0, tube, 'A'));
            refusesNumbersFrom(2, (shop, sign) -> shop.hang(sign, 0, '?'));
            refusesNumbersFrom(3, (shop, tube) -> shop.hang(0, tube, '?'));
        });
        says("Throws `IllegalArgumentException` if there is no such letter", () -> {
            refusesLettersBut("ABCDEFGHIJKLMNOPQRSTUVWXYZ", Make::shop, (shop, letter) -> shop.hang(1, 2, letter));
            refusesLettersBut("ABCDEFGHIJKLMNOPQRSTUVWXYZ", Make::shop, (shop, letter) -> shop.hang(1, 0, letter));
        });
        says("Throws `UnsupportedOperationException` if the tube hangs somewhere, or meets one that hangs there", () -> {
            refused("it hangs there", REFUSED, Make::shop, shop -> shop.hang(0, 0, 'A'));
            refused("it hangs elsewhere", REFUSED, Make::shop, shop -> shop.hang(1, 0, 'A'));
            refused("it meets the first one", REFUSED, () -> withTube("ww", 2, 0), shop -> shop.hang(0, 3, 'A'));
            refused("it meets the second one", REFUSED, () -> withTube("ww", 2, 10), shop -> shop.hang(0, 3, 'A'));
            same("it meets one of another sign", withTube("ww", 2, 0).hang(1, 3, 'A'), 1);
            same("it meets one that hangs nowhere", withTube("nn", 50, 1).hang(0, 3, 'A'), 3);
            same("it meets none", withTube("ww", 2, 1).hang(0, 3, 'A'), 3);
        });
    }

    /** The shop, whose tube 0 goes along y 0, tube 1 along y 10 to 12, and a tube 3. */
    private static Neonworks withTube(String letters, int x, int y) {
        Neonworks shop = Make.shop();
        shop.erase();
        Make.tube(shop, 8, letters, x, y, 0);
        return shop;
    }

    private static void wetting() {
        of(31);
        says("`sign`: the number of the sign", () -> takesNumbersOf(2, (shop, sign) -> shop.wet(sign, true)));
        says("Makes a sign wet, or dry.", () -> {
            Neonworks shop = new Neonworks();
            shop.sign(10, 10);
            shop.transformer(410);
            Make.bright(shop, 0, 'a');
            shop.load(0, 0);
            shop.hang(0, 0, 'A');
            same("dry at first", shop.rowLights(0), true);
            shop.wet(0, true);
            same("wet", shop.rowLights(0), false);
            shop.wet(0, false);
            same("dry", shop.rowLights(0), true);
        });
        says("Returns whether it was.", () -> {
            Neonworks shop = Make.shop();
            same("the wet one", shop.wet(0, true) + " " + shop.wet(0, false) + " " + shop.wet(0, false), "true true false");
            same("the dry one", shop.wet(1, true) + " " + shop.wet(1, true), "false true");
        });
        says("Throws `IndexOutOfBoundsException` if there is no such sign", () ->
                refusesNumbersFrom(2, (shop, sign) -> shop.wet(sign, false)));
    }
}
