/** Sentences of words and mixed light, and of promises 36 to 41. */
final class WordEdges extends Edges {
    private WordEdges() {
    }

    static void all() {
        termsOfWords();
        termsOfHonesty();
        counting();
        spelling();
        meaning();
        refusingToMean();
        telling();
        risking();
        mixing();
    }

    private static Neonworks fullOfWords() {
        Neonworks shop = Make.shop();
        for (String word : new String[] {"D", "E", "F", "GHIJKLMN"}) {
            SignEdges.meaning(shop, word);
        }
        return shop;
    }

    private static void termsOfWords() {
        of(0);
        says("A sign has at most 6 meant words, texts of 1 to 8 letters", () -> {
            Neonworks shop = new Neonworks();
            shop.sign(10, 10);
            for (int word = 1; word <= 6; word++) {
                same("word " + word, shop.mean(0, 'A', true), word);
                for (int letter = 2; letter <= 8; letter++) {
                    same("letter " + letter, shop.mean(0, 'B', false), word);
                }
                Check.fails("the ninth letter", REFUSED, () -> shop.mean(0, 'B', false));
            }
            Check.fails("the seventh word", FULL, () -> shop.mean(0, 'A', true));
            Neonworks nine = SignEdges.signOf("ABCDEFGHI");
            nine.cam(1, 1);
            for (int i = 0; i < 9; i++) {
                nine.wire(i, 'd', 0, 0);
            }
            SignEdges.meaning(nine, "ABCDEFGH", "BCDEFGHI");
            same("nine letters are no meant word", nine.wrongAt(0), 0);
            nine.wire(8, 'n', 0, 0);
            same("eight letters are one", nine.wrongAt(0), -1);
            nine.wire(8, 'd', 0, 0);
            nine.wire(0, 'n', 0, 0);
            same("eight other letters are another one", nine.wrongAt(0), -1);
        });
        says("no letter is always meant", () -> {
            Neonworks dark = SignEdges.signOf("A", 1, 0);
            same("without words", dark.wrongAt(0), -1);
            SignEdges.meaning(dark, "B");
            same("with a word", dark.wrongAt(0), -1);
            Neonworks empty = new Neonworks();
            empty.sign(10, 10);
            same("without tubes", empty.wrongAt(0), -1);
        });
    }

    private static void termsOfHonesty() {
        of(0);
        says("It is honest if in each of the seconds 0 to 359 its word is meant", () -> {
            same("A alone is meant", SignEdges.meaning(SignEdges.signOf("A", 12, 2048), "A").wrongAt(0), -1);
            same("A is not meant", SignEdges.signOf("A", 12, 1).wrongAt(0), 0);
            same("the last second of a period", SignEdges.signOf("A", 12, 2048).wrongAt(0), 11);
            same("in the last second of all", together(359).wrongAt(0), 359);
            same("in the second behind it", together(360).wrongAt(0), -1);
            same("in the second ahead of it", together(358).wrongAt(0), 358);
            same("none of six words", SignEdges.meaning(SignEdges.signOf("A", 1, 1), "B", "C", "D", "E", "F", "G").wrongAt(0), 0);
            same("the last of six words", SignEdges.meaning(SignEdges.signOf("A", 1, 1), "B", "C", "D", "E", "F", "A").wrongAt(0),
                    -1);
            same("part of a meant word", SignEdges.meaning(SignEdges.signOf("A", 1, 1), "AB", "BA").wrongAt(0), 0);
            same("a meant word, and more", SignEdges.meaning(SignEdges.signOf("AB", 1, 1, 1, 1), "A", "B", "BA").wrongAt(0), 0);
        });
    }

    /** A sign of A and B, both meant alone, that are lit together in one second from 0 to 692. */
    private static Neonworks together(int second) {
        Neonworks shop = SignEdges.signOf("AB", 11, 1 << second % 11, 9, 1 << second % 9);
        shop.cam(7, 1 << second % 7);
        shop.wire(0, 'a', 0, 2);
        return SignEdges.meaning(shop, "A", "B");
    }

    private static void counting() {
        of(36);
        says("`sign`: the number of the sign", () -> takesNumbersOf(2, (shop, sign) -> shop.letters(sign, 0)));
        says("`second`: the second, from 0", () ->
                takes(0, Integer.MAX_VALUE, Make::shop, (shop, second) -> shop.letters(0, second)));
        says("Returns the number of letters of the word of a sign.", () ->
                same("of the shop", Make.shop().letters(0, 0) + " " + Make.shop().letters(0, 1), "1 0"));
        says("Returns the number of letters.", () -> {
            Neonworks shop = SignEdges.signOf("AAB", 1, 1, 2, 1, 3, 1);
            same("in the second 0", shop.letters(0, 0), 3);
            same("in the second 1", shop.letters(0, 1), 1);
            same("in the second 2", shop.letters(0, 2), 2);
            shop.sign(10, 10);
            same("of an empty sign", shop.letters(1, 0), 0);
        });
        says("Throws `IndexOutOfBoundsException` if there is no such sign", () -> {
            refusesNumbersFrom(2, (shop, sign) -> shop.letters(sign, 0));
            refusesNumbersFrom(2, (shop, sign) -> shop.letters(sign, -1));
        });
        says("Throws `IllegalArgumentException` if the second is less than 0", () -> {
            refused("second -1", WRONG, Make::shop, shop -> shop.letters(0, -1));
            refused("the least second", WRONG, Make::shop, shop -> shop.letters(0, Integer.MIN_VALUE));
        });
    }

    private static void spelling() {
        of(37);
        says("`sign`: the number of the sign", () -> takesNumbersOf(2, (shop, sign) -> shop.letterAt(sign, 0, 0)));
        says("`second`: the second, from 0", () ->
                takes(0, Integer.MAX_VALUE, () -> SignEdges.signOf("A", 1, 1), (shop, second) -> shop.letterAt(0, second, 0)));
        says("`index`: the index, from 0", () ->
                takes(0, 2, () -> SignEdges.signOf("ABC", 1, 1, 1, 1, 1, 1), (shop, index) -> shop.letterAt(0, 0, index)));
        says("Returns the letter.", () -> {
            Neonworks shop = SignEdges.signOf("ZAM", 1, 1, 2, 1, 1, 1);
            same("in the second 0", "" + shop.letterAt(0, 0, 0) + shop.letterAt(0, 0, 1) + shop.letterAt(0, 0, 2), "ZAM");
            same("in the second 1", "" + shop.letterAt(0, 1, 0) + shop.letterAt(0, 1, 1), "ZM");
        });
        says("Throws `IndexOutOfBoundsException` if there is no such sign", () -> {
            refusesNumbersFrom(2, (shop, sign) -> shop.letterAt(sign, 0, 0));
            refusesNumbersFrom(2, (shop, sign) -> shop.letterAt(sign, -1, -1));
        });
        says("Throws `IllegalArgumentException` if the second is less than 0", () -> {
            refused("second -1", WRONG, Make::shop, shop -> shop.letterAt(0, -1, 0));
            refused("second -1, and no such letter", WRONG, Make::shop, shop -> shop.letterAt(0, -1, -1));
            refused("the least second", WRONG, Make::shop, shop -> shop.letterAt(1, Integer.MIN_VALUE, 9));
        });
        says("Throws `NoSuchElementException` if there is no such letter", () -> {
            for (int index : new int[] {-1, 2, 3, 8, 20, Integer.MIN_VALUE, Integer.MAX_VALUE}) {
                refused("index " + index, MISSING, () -> SignEdges.signOf("AB", 1, 1, 1, 1), shop -> shop.letterAt(0, 0, index));
            }
            refused("of two that hang one is lit", MISSING, () -> SignEdges.signOf("AB", 1, 0, 1, 1),
                    shop -> shop.letterAt(0, 0, 1));
            refused("an empty sign", MISSING, Make::shop, shop -> shop.letterAt(1, 0, 0));
        });
    }

    private static void meaning() {
        of(38);
        says("`sign`: the number of the sign", () -> takesNumbersOf(2, (shop, sign) -> shop.mean(sign, 'A', true)));
        says("`letter`: 'A' to 'Z'", () -> {
            takesLetters("ABCDEFGHIJKLMNOPQRSTUVWXYZ", Make::shop, (shop, letter) -> shop.mean(0, letter, true));
            takesLetters("ABCDEFGHIJKLMNOPQRSTUVWXYZ", Make::shop, (shop, letter) -> shop.mean(0, letter, false));
        });
        says("Begins a meant word of a sign, or adds a letter to its last one.", () -> {
            Neonworks shop = SignEdges.signOf("AB", 1, 1, 1, 1);
            shop.mean(0, 'A', true);
            same("A alone", shop.wrongAt(0), 0);
            shop.mean(0, 'B', true);
            same("A and B", shop.wrongAt(0), 0);
            shop.mean(0, 'A', true);
            shop.mean(0, 'B', false);
            same("A, B and AB", shop.wrongAt(0), -1);
            shop.mean(0, 'C', false);
            same("A, B and ABC", shop.wrongAt(0), 0);
        });
        says("Returns how many meant words it has.", () -> {
            Neonworks shop = new Neonworks();
            shop.sign(10, 10);
            shop.sign(10, 10);
            same("the first", shop.mean(0, 'A', true), 1);
            same("a letter", shop.mean(0, 'A', false), 1);
            same("the same again", shop.mean(0, 'A', true), 2);
            same("of the other sign", shop.mean(1, 'A', true), 1);
        });
    }

    private static void refusingToMean() {
        of(38);
        says("Throws `IndexOutOfBoundsException` if there is no such sign", () -> {
            refusesNumbersFrom(2, (shop, sign) -> shop.mean(sign, 'A', true));
            refusesNumbersFrom(2, (shop, sign) -> shop.mean(sign, 'a', false));
        });
        says("Throws `IllegalArgumentException` if there is no such letter", () -> {
            String letters = "ABCDEFGHIJKLMNOPQRSTUVWXYZ";
            refusesLettersBut(letters, Make::shop, (shop, letter) -> shop.mean(0, letter, true));
            refusesLettersBut(letters, Make::shop, (shop, letter) -> shop.mean(1, letter, false));
            refusesLettersBut(letters, WordEdges::fullOfWords, (shop, letter) -> shop.mean(0, letter, true));
            refusesLettersBut(letters, WordEdges::fullOfWords, (shop, letter) -> shop.mean(0, letter, false));
        });
        says("Throws `UnsupportedOperationException` if no word was begun, or it has 8 letters", () -> {
            refused("no word was begun", REFUSED, Make::shop, shop -> shop.mean(1, 'A', false));
            refused("the ninth letter", REFUSED, () -> SignEdges.meaning(Make.shop(), "ABCDEFGH"),
                    shop -> shop.mean(0, 'I', false));
            refused("the ninth letter of the sixth word", REFUSED, WordEdges::fullOfWords, shop -> shop.mean(0, 'A', false));
            same("the eighth letter", SignEdges.meaning(Make.shop(), "ABCDEFG").mean(0, 'H', false), 3);
            same("a word behind one of 8", SignEdges.meaning(Make.shop(), "ABCDEFGH").mean(0, 'I', true), 4);
        });
        says("Throws `IllegalStateException` if it has 6 words", () -> {
            refused("the seventh", FULL, WordEdges::fullOfWords, shop -> shop.mean(0, 'A', true));
            same("a letter of the sixth", SignEdges.meaning(Make.shop(), "D", "E", "F", "G").mean(0, 'H', false), 6);
        });
    }

    private static void telling() {
        of(39);
        says("`sign`: the number of the sign", () -> takesNumbersOf(2, Neonworks::wrongAt));
        says("Returns the first second in which a sign tells what is not meant.", () ->
                same("in 3 and more", SignEdges.signOf("A", 12, 0b111111111000).wrongAt(0), 3));
        says("Returns the second, 0 to 359, or -1.", () -> {
            same("none", SignEdges.signOf("A", 12, 0).wrongAt(0), -1);
            same("the first", SignEdges.signOf("A", 12, 1).wrongAt(0), 0);
            same("the last", together(359).wrongAt(0), 359);
            same("behind the last", together(360).wrongAt(0), -1);
        });
        says("Throws `IndexOutOfBoundsException` if there is no such sign", () -> refusesNumbersFrom(2, Neonworks::wrongAt));
    }

    private static void risking() {
        of(40);
        says("`sign`: the number of the sign", () -> takesNumbersOf(2, Neonworks::risks));
        says("Returns how many ways of sticking of one cam, on, off or late, other than how it is now, make a sign tell", () -> {
            // A in the second 0, B in the second 1: each cam may be off, on and late tell AB.
            Neonworks shop = SignEdges.meaning(SignEdges.signOf("AB", 2, 1, 2, 2), "A", "B");
            same("as meant", shop.risks(0), 4);
            shop.stick(0, '0');
            same("the first is off: it may be on or late", shop.risks(0), 2);
            same("asking leaves it off", shop.stick(0, '-'), '0');
        });
        says("Returns the number of ways.", () -> {
            same("no cams", SignEdges.signOf("A").risks(0), 0);
            same("on and late, but not off", SignEdges.signOf("A", 1, 1).risks(0), 2);
            Neonworks shop = SignEdges.signOf("AB", 1, 0, 1, 1);
            same("three of a cam that does no harm, two of one that does", shop.risks(0), 5);
            Neonworks other = SignEdges.meaning(SignEdges.signOf("A", 1, 1), "A");
            other.cam(1, 1);
            same("cams that do no harm", other.risks(0), 0);
        });
        says("Throws `IndexOutOfBoundsException` if there is no such sign", () -> refusesNumbersFrom(2, Neonworks::risks));
    }

    private static void mixing() {
        of(0);
        says("The eye mixes tubes: each part is the sum over their units that shine, divided by their number", () -> {
            Neonworks shop = mixedShop();
            // Four units of 60 100 255, and one of 230 130 110 by 227.
            same("red", shop.mixed(0, 0, false, 'r'), (4 * 60 + 227) / 5);
            same("green", shop.mixed(0, 0, false, 'g'), (4 * 100 + 130) / 5);
            same("blue", shop.mixed(0, 0, false, 'b'), (4 * 255 + 110) / 5);
        });
        of(41);
        says("`sign`: the number of the sign", () -> takesNumbersOf(2, (shop, sign) -> shop.mixed(sign, 0, true, 'r')));
        says("`second`: the second, from 0", () ->
                takes(0, Integer.MAX_VALUE, Make::shop, (shop, second) -> shop.mixed(0, second, false, 'r')));
        says("`part`: 'r', 'g' or 'b'", () -> takesLetters("rgb", Make::shop, (shop, part) -> shop.mixed(0, 0, false, part)));
        says("Returns the part, cut, 0 without units that shine.", () -> {
            Neonworks shop = mixedShop();
            same("cut", shop.mixed(0, 0, false, 'r'), 93);
            same("by day", shop.mixed(0, 0, true, 'r'), (4 * 20 + 75) / 5);
            same("argon alone", shop.mixed(0, 1, false, 'g'), 100);
            shop.black(0, 0, 4);
            same("argon is black", shop.mixed(0, 1, false, 'g'), 0);
            same("neon alone shines", shop.mixed(0, 0, false, 'b'), 110);
            same("an empty sign", shop.mixed(shop.sign(10, 10), 0, false, 'r'), 0);
        });
        says("Throws `IndexOutOfBoundsException` if there is no such sign", () -> {
            refusesNumbersFrom(2, (shop, sign) -> shop.mixed(sign, 0, true, 'r'));
            refusesNumbersFrom(2, (shop, sign) -> shop.mixed(sign, -1, true, 'x'));
        });
        says("Throws `IllegalArgumentException` if the second is less than 0, or there is no such part", () -> {
            refused("second -1", WRONG, Make::shop, shop -> shop.mixed(0, -1, true, 'r'));
            refused("the least second", WRONG, Make::shop, shop -> shop.mixed(1, Integer.MIN_VALUE, true, 'r'));
            refusesLettersBut("rgb", Make::shop, (shop, part) -> shop.mixed(0, 0, true, part));
        });
    }

    /** Four units of argon, lit always, and one of white neon, its others black, lit in each second second. */
    private static Neonworks mixedShop() {
        Neonworks shop = SignEdges.signOf("A", 1, 1);
        Make.tube(shop, 8, "eeee", 0, 20, 0);
        shop.setCoat(1, 1);
        Make.lightUp(shop, 1, 8, 'n');
        shop.black(1, 1, 4);
        shop.load(0, 1);
        shop.hang(0, 1, 'B');
        shop.cam(2, 1);
        shop.wire(1, 'd', 1, 0);
        return shop;
    }
}
