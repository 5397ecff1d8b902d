import java.io.IOException;
import java.nio.file.Files;
import java.nio.file.Path;
import java.util.ArrayList;
import java.util.Arrays;
import java.util.HashSet;
import java.util.List;
import java.util.Set;
import java.util.function.Function;
import java.util.function.Supplier;

/**
 * Sentences of the document, each with a test of its own: every test names its sentence word by word, so that a
 * sentence that is not in the document, or one of a boundary case that no test names, is told as wrong.
 */
abstract class Edges {
    static final Class<IndexOutOfBoundsException> NONE = IndexOutOfBoundsException.class;
    static final Class<IllegalArgumentException> WRONG = IllegalArgumentException.class;
    static final Class<IllegalStateException> FULL = IllegalStateException.class;
    static final Class<UnsupportedOperationException> REFUSED = UnsupportedOperationException.class;
    static final Class<java.util.NoSuchElementException> MISSING = java.util.NoSuchElementException.class;
    private static final int[] FAR = {-1, Integer.MIN_VALUE, Integer.MAX_VALUE, Short.MIN_VALUE, 65536};

    private static final List<String> TOLD = new ArrayList<>();
    private static int promise = 0;

    Edges() {
    }

    /** A call with one number that is tried at the ends of its range; it throws, or its answer does not matter. */
    interface Numbered {
        Object call(Neonworks shop, int number);
    }

    /** Begins the sentences of a promise, or, with 0, of the terms. */
    static void of(int number) {
        promise = number;
    }

    /** Tests a sentence of the promise that was begun. */
    static void says(String sentence, Runnable test) {
        TOLD.add(promise + ": " + sentence);
        Check.about((promise == 0 ? "Terms" : "Promise " + promise) + ", \"" + sentence + "\"");
        try {
            test.run();
        } catch (RuntimeException thrown) {
            Check.same("the test", thrown, "no exception");
        }
        Check.about("");
    }

    static void same(String what, Object got, Object due) {
        Check.same(what, got, due);
    }

    // ---- what many sentences say alike ----

    /** The call is refused by just this exception and changes nothing that can be asked. */
    static void refused(String what, Class<? extends RuntimeException> due, Supplier<Neonworks> maker,
            Function<Neonworks, Object> call) {
        Neonworks shop = maker.get();
        Check.fails(what, due, () -> call.apply(shop));
        Check.same(what + " changes nothing", Make.told(shop), Make.told(maker.get()));
    }

    /** Both ends of a range are taken: a fresh shop for each, so that no call is in the way of the next. */
    static void takes(int least, int most, Supplier<Neonworks> maker, Numbered call) {
        for (int number : new int[] {least, least + 1, (least + most) / 2, most - 1, most}) {
            Check.runs("number " + number, () -> call.call(maker.get(), number));
        }
    }

    /** Just outside of a range, and far outside, the number is refused. */
    static void refuses(int least, int most, Supplier<Neonworks> maker, Numbered call) {
        for (int number : outside(least, most)) {
            refused("number " + number, WRONG, maker, shop -> call.call(shop, number));
        }
    }

    /** Numbers from 0 that are there are taken. */
    static void takesNumbersOf(int many, Numbered call) {
        for (int number = 0; number < many; number++) {
            int asked = number;
            Check.failsNot("number " + number, NONE, () -> call.call(Make.shop(), asked));
        }
    }

    /** Numbers that are not there are refused, and in a new shop every number is. */
    static void refusesNumbersFrom(int many, Numbered call) {
        for (int number : outside(0, many - 1)) {
            refused("number " + number, NONE, Make::shop, shop -> call.call(shop, number));
        }
        for (int number : new int[] {0, 1, -1}) {
            refused("number " + number + " in a new shop", NONE, Neonworks::new, shop -> call.call(shop, number));
        }
    }

    private static Set<Integer> outside(int least, int most) {
        Set<Integer> numbers = new HashSet<>(Arrays.asList(least - 1, most + 1, most + 2));
        for (int number : FAR) {
            if (number < least || number > most) {
                numbers.add(number);
            }
        }
        return numbers;
    }

    /** Letters that are there are taken. */
    static void takesLetters(String letters, Supplier<Neonworks> maker, Lettered call) {
        for (char letter : letters.toCharArray()) {
            Check.runs("letter " + letter, () -> call.call(maker.get(), letter));
        }
    }

    /** All others are refused, those of the other case, and those with the same last byte, too. */
    static void refusesLettersBut(String letters, Supplier<Neonworks> maker, Lettered call) {
        for (int code = 0; code < 600; code++) {
            char letter = (char) code;
            if (letters.indexOf(letter) < 0) {
                Neonworks shop = maker.get();
                Check.fails("letter " + code, WRONG, () -> call.call(shop, letter));
            }
        }
        for (char letter : new char[] {0, (char) (letters.charAt(0) - 1), (char) (letters.charAt(0) ^ 32), 0xffff}) {
            if (letters.indexOf(letter) < 0) {
                refused("letter " + (int) letter, WRONG, maker, shop -> call.call(shop, letter));
            }
        }
    }

    /** A call with one letter. */
    interface Lettered {
        Object call(Neonworks shop, char letter);
    }

    // ---- whether each sentence has a test ----

    static void coverDocument() throws IOException {
        String document = Files.readString(Path.of("../shared/DOC.md"));
        String terms = flat(document.substring(document.indexOf("## Terms"), document.indexOf("## Promise 1:")));
        String[] promises = document.substring(0, document.indexOf("## Not promised")).split("\n## Promise ");
        for (String told : TOLD) {
            int number = Integer.parseInt(told.substring(0, told.indexOf(':')));
            String text = number == 0 ? terms : flat(promises[number]);
            Check.same("the document says " + told, text.contains(flat(told.substring(told.indexOf(':') + 2))), true);
        }
        coverTerms(terms);
        for (int number = 1; number < promises.length; number++) {
            coverPromise(number, promises[number]);
        }
    }

    /** Each sentence of the terms, up to a full stop or a semicolon, has a test of it or of a part of it. */
    private static void coverTerms(String terms) {
        String rules = terms.substring(terms.indexOf("A path is a text")).replaceAll("<[^>]*>[^<]*</h2>", "#");
        for (String sentence : rules.split("[.;#]")) {
            String looked = sentence.trim();
            boolean isTold = looked.isEmpty();
            for (String told : TOLD) {
                String quote = flat(told.substring(told.indexOf(':') + 2));
                isTold |= told.startsWith("0: ") && (quote.contains(looked) || looked.contains(quote.replaceAll("[.;]$", "")));
            }
            Check.same("a test of \"" + looked + "\"", isTold, true);
        }
    }

    /** Each line of a promise that tells a range, an answer or an exception has a test of it or of a part of it. */
    private static void coverPromise(int number, String text) {
        for (String line : text.split("\n")) {
            boolean isTold = !line.matches("(- `|Returns |Throws ).*") || line.matches("- `is.*: wh.*");
            for (String told : TOLD) {
                String quote = told.substring(told.indexOf(':') + 2);
                isTold |= told.startsWith(number + ": ") && (line.contains(quote) || quote.contains(line));
            }
            Check.same("a test of promise " + number + ", \"" + line + "\"", isTold, true);
        }
    }

    private static String flat(String text) {
        return text.replaceAll("\\s+", " ");
    }
}
