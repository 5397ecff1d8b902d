import java.util.ArrayList;
import java.util.List;
import java.util.NoSuchElementException;
import java.util.Random;

/** Promises 29 to 41: signs, hanging, cams, relays, words, faults and mixed light. */
public final class SignTest {
    private static final Class<IndexOutOfBoundsException> NONE = IndexOutOfBoundsException.class;
    private static final Class<IllegalArgumentException> WRONG = IllegalArgumentException.class;
    private static final Class<UnsupportedOperationException> REFUSED = UnsupportedOperationException.class;
    private static final Class<IllegalStateException> FULL = IllegalStateException.class;

    public static void main(String[] args) {
        signs();
        hanging();
        wetting();
        cams();
        wiring();
        sticking();
        lighting();
        words();
        meaning();
        wrongs();
        lateWrongs();
        longWords();
        risks();
        mixing();
        Check.end(SignTest.class);
    }

    /** A sign 0 with tubes in one row; each is told as its letter and wired as told by wire. */
    private static Neonworks signOf(String letters) {
        Neonworks shop = new Neonworks();
        shop.sign(100, 100);
        shop.transformer(15000);
        for (int i = 0; i < letters.length(); i++) {
            Make.bright(shop, i, 'a');
            shop.load(0, i);
            shop.hang(0, i, letters.charAt(i));
        }
        return shop;
    }

    private static String word(Neonworks shop, int sign, int second) {
        StringBuilder all = new StringBuilder();
        for (int i = 0; i < shop.letters(sign, second); i++) {
            all.append(shop.letterAt(sign, second, i));
        }
        return all.toString();
    }

    private static void mean(Neonworks shop, String... words) {
        for (String word : words) {
            for (int i = 0; i < word.length(); i++) {
                shop.mean(0, word.charAt(i), i == 0);
            }
        }
    }

    private static void signs() {
        Neonworks shop = new Neonworks();
        int[][] wrong = {{9, 10}, {10, 9}, {401, 10}, {10, 401}, {-10, 10}, {10, Integer.MAX_VALUE}};
        for (int[] size : wrong) {
            Check.fails("sign " + size[0] + " " + size[1], WRONG, () -> shop.sign(size[0], size[1]));
        }
        for (int i = 0; i < 6; i++) {
            Check.same("sign", shop.sign(i % 2 == 0 ? 10 : 400, i < 3 ? 10 : 400), i);
        }
        Check.fails("a seventh", FULL, () -> shop.sign(10, 10));
        Check.fails("a wrong seventh", WRONG, () -> shop.sign(10, 9));
    }

    private static void hanging() {
        Neonworks shop = new Neonworks();
        shop.sign(100, 100);
        shop.sign(100, 100);
        Make.tube(shop, 8, "eeee", 0, 0, 0);
        Make.tube(shop, 8, "nnnn", 0, 0, 0);
        Make.tube(shop, 8, "eeee", 0, 1, 0);
        Make.tube(shop, 8, "eeee", 0, 5, 0);
        Check.same("hang", shop.hang(0, 0, 'A'), 1);
        Check.fails("hang again", REFUSED, () -> shop.hang(0, 0, 'A'));
        Check.fails("hang elsewhere", REFUSED, () -> shop.hang(1, 0, 'A'));
        Check.fails("hang one that meets", REFUSED, () -> shop.hang(0, 1, 'A'));
        Check.same("hang it elsewhere", shop.hang(1, 1, 'Z'), 1);
        Check.same("hang one more", shop.hang(0, 2, 'Z'), 2);
        for (char letter : new char[] {'@', '[', 'a', 'z', '0', 0, 321}) {
            Check.fails("letter " + (int) letter, WRONG, () -> shop.hang(0, 3, letter));
            Check.fails("letter of a tube that hangs " + (int) letter, WRONG, () -> shop.hang(0, 0, letter));
        }
        Check.fails("no sign", NONE, () -> shop.hang(2, 3, 'A'));
        Check.fails("no sign", NONE, () -> shop.hang(-1, 3, '?'));
        Check.fails("no tube", NONE, () -> shop.hang(0, 4, 'A'));
        Check.fails("no tube", NONE, () -> shop.hang(0, -1, '?'));
        Check.same("hang the last", shop.hang(0, 3, 'M'), 3);
    }

    private static void wetting() {
        Neonworks shop = new Neonworks();
        shop.sign(100, 100);
        shop.sign(100, 100);
        Check.same("wet", shop.wet(0, true), false);
        Check.same("wet", shop.wet(0, true), true);
        Check.same("dry", shop.wet(0, false), true);
        Check.same("dry", shop.wet(0, false), false);
        shop.wet(0, true);
        Check.same("the other", shop.wet(1, false), false);
        Check.fails("no sign", NONE, () -> shop.wet(2, true));
        Check.fails("no sign", NONE, () -> shop.wet(-1, true));
    }

    private static void cams() {
        Neonworks shop = new Neonworks();
        int[][] wrong = {{0, 0}, {13, 0}, {-1, 0}, {1, 2}, {12, 4096}, {3, -1}, {3, 8}, {32, 0}, {33, 1}, {31, 0}};
        for (int[] cam : wrong) {
            Check.fails("cam " + cam[0] + " " + cam[1], WRONG, () -> shop.cam(cam[0], cam[1]));
        }
        for (int i = 0; i < 8; i++) {
            Check.same("cam", i == 0 ? shop.cam(12, 4095) : shop.cam(i, (1 << i) - 1), i);
        }
        Check.fails("a ninth", FULL, () -> shop.cam(1, 0));
        Check.fails("a wrong ninth", WRONG, () -> shop.cam(1, 2));
    }

    private static void wiring() {
        Neonworks shop = new Neonworks();
        Make.tube(shop, 8, "ee", 0, 0, 0);
        Make.tube(shop, 8, "ee", 0, 1, 0);
        shop.cam(1, 1);
        shop.cam(2, 1);
        for (char relay : new char[] {'q', 'D', 0, '-'}) {
            Check.fails("relay " + relay, WRONG, () -> shop.wire(0, relay, 0, 0));
            Check.fails("relay without a cam " + relay, NONE, () -> shop.wire(0, relay, 2, 0));
        }
        for (char relay : new char[] {'d', 'n', 'a', 'o'}) {
            Check.fails("no cam for " + relay, NONE, () -> shop.wire(0, relay, 2, 0));
            Check.fails("no cam for " + relay, NONE, () -> shop.wire(0, relay, -1, 0));
            Check.fails("no tube for " + relay, NONE, () -> shop.wire(2, relay, 0, 0));
            Check.fails("no tube for " + relay, NONE, () -> shop.wire(-1, relay, 0, 0));
        }
        for (char relay : new char[] {'a', 'o'}) {
            Check.fails("no second cam for " + relay, NONE, () -> shop.wire(0, relay, 0, 2));
            Check.fails("no second cam for " + relay, NONE, () -> shop.wire(0, relay, 0, -1));
        }
        Check.same("wire", shop.wire(0, 'd', 0, 99), true);
        Check.same("wire", shop.wire(0, 'n', 1, -99), false);
        Check.same("wire", shop.wire(1, 'a', 0, 1), true);
        Check.same("wire", shop.wire(1, 'o', 1, 1), false);
    }

    private static void sticking() {
        Neonworks shop = new Neonworks();
        shop.cam(1, 1);
        shop.cam(1, 1);
        char before = '-';
        for (char how : new char[] {'1', '0', 'l', '-', 'l', 'l', '1', '-'}) {
            Check.same("stick " + how, shop.stick(0, how), before);
            before = how;
        }
        for (char how : new char[] {'L', '2', 0, 'x', 1}) {
            Check.fails("stick " + (int) how, WRONG, () -> shop.stick(0, how));
            Check.fails("stick no cam", NONE, () -> shop.stick(2, how));
        }
        Check.fails("stick no cam", NONE, () -> shop.stick(-1, '1'));
        Check.same("as before", shop.stick(0, '1') + "" + shop.stick(1, '0'), "--");
    }

    private static boolean isOn(int period, int bits, char how, int second) {
        if (how == '1' || how == '0') {
            return how == '1';
        }
        int shown = second % period;
        if (how == 'l') {
            shown = shown == 0 ? period - 1 : shown - 1;
        }
        return (bits >> shown & 1) == 1;
    }

    private static void lighting() {
        int[][] cams = {{5, 0b10110}, {12, 0b100000000001}, {1, 1}, {7, 0b0101011}};
        for (int first = 0; first < 4; first++) {
            for (char how : new char[] {'-', 'l', '1', '0'}) {
                int second = (first + 1) % 4;
                Neonworks shop = signOf("ABCD");
                for (int[] cam : cams) {
                    shop.cam(cam[0], cam[1]);
                }
                for (int i = 0; i < 4; i++) {
                    shop.wire(i, "dnao".charAt(i), first, second);
                }
                shop.stick(first, how);
                for (int t = 0; t < 30; t++) {
                    boolean one = isOn(cams[first][0], cams[first][1], how, t);
                    boolean two = isOn(cams[second][0], cams[second][1], '-', t);
                    boolean[] due = {one, !one, one && two, one || two};
                    for (int i = 0; i < 4; i++) {
                        Check.same("isLit " + i + " at " + t + how, shop.isLit(i, t), due[i]);
                    }
                }
            }
        }
        darkTubes();
    }

    private static void darkTubes() {
        Neonworks shop = signOf("AB");
        shop.cam(1, 1);
        Check.same("not wired", shop.isLit(0, 0), false);
        shop.wire(0, 'd', 0, 0);
        Check.same("wired", shop.isLit(0, Integer.MAX_VALUE), true);
        Check.fails("second -1", WRONG, () -> shop.isLit(0, -1));
        Check.fails("no tube", NONE, () -> shop.isLit(2, -1));
        Check.fails("no tube", NONE, () -> shop.isLit(-1, 0));
        Make.bright(shop, 7, 'a');
        shop.wire(2, 'd', 0, 0);
        Check.same("in no row", shop.isLit(2, 0), false);
        shop.transformer(500);
        shop.load(1, 2);
        Check.same("in a row, on no sign", shop.isLit(2, 0), true);
        Make.tube(shop, 8, "ee", 0, 9, 0);
        shop.load(1, 3);
        Check.same("in a row that does not light", shop.isLit(2, 0), false);
        Check.same("in a row that lights", shop.isLit(0, 0), true);
        Neonworks late = signOf("A");
        late.cam(12, 2048);
        late.wire(0, 'd', 0, 0);
        late.stick(0, 'l');
        Check.same("late in the second 0", late.isLit(0, 0), true);
        Check.same("late in the second 11", late.isLit(0, 11), false);
        Check.same("late in the second 12", late.isLit(0, 12), true);
        // 2147483647 modulo 12 is 7.
        late.cam(12, 1 << 6);
        late.wire(0, 'd', 1, 0);
        late.stick(1, 'l');
        Check.same("late in the last second", late.isLit(0, Integer.MAX_VALUE), true);
        late.stick(1, '-');
        Check.same("in the last second", late.isLit(0, Integer.MAX_VALUE), false);
    }

    private static void words() {
        Neonworks shop = signOf("OPEN");
        shop.cam(1, 1);
        shop.cam(2, 1);
        shop.wire(0, 'd', 0, 0);
        shop.wire(1, 'd', 1, 0);
        shop.wire(2, 'n', 1, 0);
        shop.wire(3, 'd', 0, 0);
        Check.same("word at 0", word(shop, 0, 0), "OPN");
        Check.same("word at 1", word(shop, 0, 1), "OEN");
        Check.same("letters at 1", shop.letters(0, 1), 3);
        for (int index : new int[] {-1, 3, 4, Integer.MAX_VALUE, Integer.MIN_VALUE}) {
            Check.fails("letter " + index, NoSuchElementException.class, () -> shop.letterAt(0, 0, index));
        }
        Check.fails("letters at -1", WRONG, () -> shop.letters(0, -1));
        Check.fails("letterAt -1", WRONG, () -> shop.letterAt(0, -1, -1));
        Check.fails("letters of no sign", NONE, () -> shop.letters(1, -1));
        Check.fails("letters of no sign", NONE, () -> shop.letters(-1, 0));
        Check.fails("letterAt of no sign", NONE, () -> shop.letterAt(1, -1, -1));
        Check.fails("letterAt of no sign", NONE, () -> shop.letterAt(-1, 0, 0));
        shop.sign(10, 10);
        Check.same("letters of an empty sign", shop.letters(1, 0), 0);
        Check.fails("letter of an empty sign", NoSuchElementException.class, () -> shop.letterAt(1, 0, 0));
        // The order is that of hanging, not of numbers.
        Neonworks turned = new Neonworks();
        turned.sign(100, 100);
        turned.transformer(15000);
        turned.cam(1, 1);
        for (int i = 0; i < 3; i++) {
            Make.bright(turned, i, 'a');
            turned.load(0, i);
            turned.wire(i, 'd', 0, 0);
        }
        turned.hang(0, 2, 'A');
        turned.hang(0, 0, 'B');
        turned.hang(0, 1, 'C');
        Check.same("word in the order of hanging", word(turned, 0, 5), "ABC");
    }

    private static void meaning() {
        Neonworks shop = new Neonworks();
        shop.sign(10, 10);
        shop.sign(10, 10);
        Check.fails("no word begun", REFUSED, () -> shop.mean(0, 'A', false));
        for (char letter : new char[] {'@', '[', 'a', 0, 321}) {
            Check.fails("letter " + (int) letter, WRONG, () -> shop.mean(0, letter, false));
        }
        Check.same("begin", shop.mean(0, 'A', true), 1);
        for (int i = 0; i < 7; i++) {
            Check.same("add", shop.mean(0, 'Z', false), 1);
        }
        Check.fails("a ninth letter", REFUSED, () -> shop.mean(0, 'Z', false));
        for (int i = 2; i <= 6; i++) {
            Check.same("begin", shop.mean(0, 'B', true), i);
        }
        Check.fails("a seventh word", FULL, () -> shop.mean(0, 'B', true));
        Check.same("add to the sixth", shop.mean(0, 'C', false), 6);
        Check.fails("a wrong seventh", WRONG, () -> shop.mean(0, 'b', true));
        Check.fails("the other sign has none", REFUSED, () -> shop.mean(1, 'A', false));
        Check.fails("no sign", NONE, () -> shop.mean(2, 'a', true));
        Check.fails("no sign", NONE, () -> shop.mean(-1, 'A', true));
    }

    private static void wrongs() {
        Neonworks shop = signOf("AB");
        Check.same("dark signs are honest", shop.wrongAt(0), -1);
        shop.cam(12, 0b100000000000);
        shop.wire(0, 'd', 0, 0);
        Check.same("A is not meant", shop.wrongAt(0), 11);
        mean(shop, "B", "AA", "AB");
        Check.same("A is still not meant", shop.wrongAt(0), 11);
        mean(shop, "A");
        Check.same("A is meant", shop.wrongAt(0), -1);
        shop.cam(11, 0b10000000000);
        shop.wire(1, 'd', 1, 0);
        Check.same("A, B and AB are meant", shop.wrongAt(0), -1);
        Neonworks other = signOf("BA");
        other.cam(12, 0b100000000000);
        other.cam(11, 0b10000000000);
        other.wire(0, 'd', 0, 0);
        other.wire(1, 'd', 1, 0);
        mean(other, "A", "B", "AB");
        Check.same("BA is first told at 131", other.wrongAt(0), 131);
        other.stick(0, 'l');
        Check.same("BA, a second late, is told at 120", other.wrongAt(0), 120);
        Check.fails("no sign", NONE, () -> shop.wrongAt(1));
        Check.fails("no sign", NONE, () -> shop.wrongAt(-1));
        wrongsByRows();
        likeSecondBySecond();
    }

    /** Against each of the words in 0 to 359, with random cams, relays and faults. */
    private static void likeSecondBySecond() {
        Random random = new Random(5);
        for (int round = 0; round < 300; round++) {
            int tubes = 1 + random.nextInt(4);
            Neonworks shop = signOf("ABAC".substring(0, tubes));
            int cams = 1 + random.nextInt(4);
            for (int i = 0; i < cams; i++) {
                int period = 1 + random.nextInt(12);
                shop.cam(period, random.nextInt(1 << period));
                shop.stick(i, "-10l".charAt(random.nextInt(4)));
            }
            for (int i = 0; i < tubes; i++) {
                shop.wire(i, "dnao".charAt(random.nextInt(4)), random.nextInt(cams), random.nextInt(cams));
            }
            String[] all = {"A", "B", "C", "AB", "ABA", "ABAC", "BA", "BAC", "AC", "BC", "AA", "ABC", "AAC"};
            List<String> meant = new ArrayList<>(List.of(""));
            for (int i = random.nextInt(7); i > 0; i--) {
                meant.add(random.nextInt(3) == 0 ? all[random.nextInt(all.length)] : word(shop, 0, random.nextInt(360)));
                if (meant.get(meant.size() - 1).isEmpty()) {
                    meant.remove(meant.size() - 1);
                }
            }
            mean(shop, meant.toArray(new String[0]));
            Check.same("wrongAt of round " + round, shop.wrongAt(0), firstWrong(shop, meant));
            int risks = 0;
            for (int cam = 0; cam < cams; cam++) {
                for (char how : new char[] {'1', '0', 'l'}) {
                    char before = shop.stick(cam, how);
                    risks += before != how && firstWrong(shop, meant) >= 0 ? 1 : 0;
                    shop.stick(cam, before);
                }
            }
            Check.same("risks of round " + round, shop.risks(0), risks);
        }
    }

    private static int firstWrong(Neonworks shop, List<String> meant) {
        for (int second = 0; second < 360; second++) {
            if (!meant.contains(word(shop, 0, second))) {
                return second;
            }
        }
        return -1;
    }

    private static void wrongsByRows() {
        Neonworks shop = signOf("A");
        shop.cam(1, 1);
        shop.wire(0, 'd', 0, 0);
        Check.same("a tube that is lit", shop.wrongAt(0), 0);
        Make.bright(shop, 5, 'a');
        shop.hang(0, 1, 'B');
        shop.wire(1, 'd', 0, 0);
        mean(shop, "A");
        Check.same("a tube in no row", shop.wrongAt(0), -1);
        Make.tube(shop, 8, "e", 0, 9, 0);
        shop.load(0, 2);
        mean(shop, "C", "D", "E", "F", "G");
        Check.same("a row that does not light", shop.wrongAt(0), -1);
        shop.transformer(1000);
        shop.load(1, 1);
        Check.same("B is none of six words", shop.wrongAt(0), 0);
        shop.stick(0, '0');
        Check.same("no letter is always meant", shop.wrongAt(0), -1);
    }

    private static void lateWrongs() {
        // The cams are all on together at the second 359 alone, or at 360 alone, which is not watched.
        for (int seen : new int[] {359, 360}) {
            Neonworks shop = signOf("AB");
            shop.cam(11, 1 << seen % 11);
            shop.cam(7, 1 << seen % 7);
            shop.cam(9, 1 << seen % 9);
            shop.wire(0, 'a', 0, 1);
            shop.wire(1, 'd', 2, 0);
            mean(shop, "A", "B");
            int first = -1;
            for (int t = 0; t < 360; t++) {
                if (word(shop, 0, t).equals("AB") && first < 0) {
                    first = t;
                }
            }
            Check.same("first wrong second", shop.wrongAt(0), first);
            Check.same("only watched seconds count", first, seen == 359 ? 359 : -1);
        }
    }

    private static void longWords() {
        Neonworks shop = signOf("ABCDEFGH");
        shop.cam(1, 1);
        for (int i = 0; i < 8; i++) {
            shop.wire(i, 'd', 0, 0);
        }
        mean(shop, "ABCDEFG", "ABCDEFGI");
        Check.same("eight letters that are not meant", shop.wrongAt(0), 0);
        mean(shop, "ABCDEFGH");
        Check.same("eight letters that are meant", shop.wrongAt(0), -1);
        Make.bright(shop, 8, 'a');
        shop.transformer(600);
        shop.load(1, 8);
        shop.hang(0, 8, 'I');
        shop.wire(8, 'd', 0, 0);
        Check.same("nine letters are never meant", shop.wrongAt(0), 0);
        mean(shop, "ABCDEFGH", "I", "BCDEFGHI");
        Check.same("nine letters are never meant", shop.wrongAt(0), 0);
    }

    private static void risks() {
        Neonworks shop = signOf("AB");
        Check.same("without cams", shop.risks(0), 0);
        shop.cam(2, 1);
        shop.cam(3, 1);
        shop.wire(0, 'd', 0, 0);
        shop.wire(1, 'n', 0, 0);
        mean(shop, "A", "B");
        Check.same("one of both is always lit", shop.risks(0), 0);
        shop.wire(1, 'd', 1, 0);
        // AB is lit at 0; off helps, for either cam; on and late still tell AB somewhere.
        Check.same("at 0 both are lit", shop.wrongAt(0), 0);
        Check.same("on and late for both cams", shop.risks(0), 4);
        shop.stick(0, '0');
        // Now the first cam may stick on or late, the second one cannot do harm.
        Check.same("off now", shop.risks(0), 2);
        Check.same("asking leaves the cam as it is", shop.stick(0, '1'), '0');
        // Stuck on: the way it is does not count; off is fine, late tells AB; of the second cam off is fine.
        Check.same("on now", shop.risks(0), 3);
        mean(shop, "AB");
        Check.same("all is meant", shop.risks(0), 0);
        Check.fails("no sign", NONE, () -> shop.risks(1));
        Check.fails("no sign", NONE, () -> shop.risks(-1));
        // A sign that tells what is not meant does so by any way of a cam that it does not use.
        Neonworks other = signOf("A");
        other.cam(1, 1);
        other.cam(1, 1);
        other.wire(0, 'd', 0, 0);
        Check.same("two ways of its own cam, three of the other", other.risks(0), 2 + 3);
    }

    private static void mixing() {
        Neonworks shop = new Neonworks();
        shop.sign(100, 100);
        shop.transformer(15000);
        shop.cam(2, 1);
        shop.cam(1, 1);
        char[] gases = {'n', 'a', 'a'};
        int[] coats = {0, 4, 1};
        for (int i = 0; i < 3; i++) {
            Make.tube(shop, 8, "e".repeat(3 + i), 0, i, 0);
            shop.setCoat(i, coats[i]);
            Make.lightUp(shop, i, 8, gases[i]);
            shop.load(0, i);
            shop.hang(0, i, 'A');
        }
        Check.same("nothing shines", shop.mixed(0, 0, false, 'r'), 0);
        shop.wire(0, 'd', 1, 0);
        shop.wire(1, 'd', 0, 0);
        shop.wire(2, 'n', 0, 0);
        shop.black(2, 1, 5);
        // At 0: 3 units of 255 60 20 and 4 of 60 0 0; at 1: 3 units and 1 of 230 230 230.
        Check.same("red at 0", shop.mixed(0, 0, false, 'r'), (3 * 255 + 4 * 60) / 7);
        Check.same("green at 0", shop.mixed(0, 0, false, 'g'), 3 * 60 / 7);
        Check.same("blue at 0", shop.mixed(0, 0, false, 'b'), 3 * 20 / 7);
        Check.same("red at 1", shop.mixed(0, 1, false, 'r'), (3 * 255 + 230) / 4);
        Check.same("green at 1 by day", shop.mixed(0, 1, true, 'g'), (3 * 20 + 76) / 4);
        Check.same("blue at 1 by day", shop.mixed(0, 1, true, 'b'), (3 * 6 + 76) / 4);
        shop.black(2, 0, 5);
        Check.same("blue at 1, all of white black", shop.mixed(0, 1, false, 'b'), 20);
        shop.black(0, 0, 2);
        Check.same("one unit", shop.mixed(0, 1, false, 'r'), 255);
        shop.black(0, 2, 3);
        Check.same("all black", shop.mixed(0, 1, false, 'b'), 0);
        Check.fails("second -1", WRONG, () -> shop.mixed(0, -1, false, 'b'));
        Check.fails("part x", WRONG, () -> shop.mixed(0, 0, false, 'x'));
        Check.fails("no sign", NONE, () -> shop.mixed(1, -1, false, 'x'));
        Check.fails("no sign", NONE, () -> shop.mixed(-1, 0, false, 'r'));
    }
}
