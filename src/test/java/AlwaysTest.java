import java.util.ArrayList;
import java.util.List;

/**
 * WHAT ALWAYS HOLDS, of every EXPRESSION of few SIGNS, by the face alone: what one method tells
 * must agree with what another one tells.
 */
public final class AlwaysTest {
    private static final Due due = new Due();
    private static final String[] WAYS = {"abc", "acb", "bac", "bca", "cab", "cba"};

    public static void main(String[] args) {
        List<List<String>> texts = textsUpTo(5);
        for (int signs = 1; signs <= 5; signs++) {
            for (String text : texts.get(signs)) {
                restsAndMeaning(text);
                restBehindTwoWords(text);
                plainTakesTheSame(text);
                countedAndTold(text);
                turnedTakesTurnedWords(text);
            }
        }
        List<String> few = new ArrayList<>();
        for (int signs = 1; signs <= 3; signs++) {
            few.addAll(texts.get(signs));
        }
        for (String text : few) {
            letteredTakesLetteredWords(text);
            for (String other : few) {
                compared(text, other);
            }
        }
        eachLawHolds(texts.get(1), texts.get(2));
        due.end();
    }

    /** By their SIGNS, all that have PARTS two by two. */
    private static List<List<String>> textsUpTo(int most) {
        List<List<String>> texts = new ArrayList<>();
        texts.add(List.of());
        texts.add(List.of("0", "1", "a", "b", "c"));
        for (int signs = 2; signs <= most; signs++) {
            List<String> made = new ArrayList<>();
            for (String part : texts.get(signs - 1)) {
                made.add("!" + part);
                made.add("[" + part + "]");
            }
            for (int left = 1; left <= signs - 2; left++) {
                for (String one : texts.get(left)) {
                    for (String other : texts.get(signs - 1 - left)) {
                        made.add("(" + one + "+" + other + ")");
                        made.add("(" + one + "&" + other + ")");
                        made.add("(" + one + "." + other + ")");
                    }
                }
            }
            texts.add(made);
        }
        return texts;
    }

    private static int wordsOf(int length) {
        return (int) Math.pow(3, length);
    }

    private static String wordOf(int length, int n) {
        StringBuilder word = new StringBuilder();
        for (int i = 0; i < length; i++) {
            word.insert(0, "abc".charAt(n % 3));
            n /= 3;
        }
        return word.toString();
    }

    private static int numberOf(String word) {
        int n = 0;
        for (char letter : word.toCharArray()) {
            n = 3 * n + letter - 'a';
        }
        return n;
    }

    /** "a word is taken by RESTS, letter by letter, just if it is by MEANING" */
    private static void restsAndMeaning(String text) {
        Letterpeel x = Build.of(text);
        for (int length = 0; length <= 4; length++) {
            for (int n = 0; n < wordsOf(length); n++) {
                int byRests = x.takes(0, length, n, 0);
                if (byRests != -9) {
                    due.is(text + " takes " + wordOf(length, n), byRests, x.takes(0, length, n, 1));
                }
            }
        }
        due.is(text + " empties", x.empties(0), x.takes(0, 0, 0, 1) == 1);
        due.is(text + " isSound", x.isSound(), true);
    }

    /** "the REST behind two words .. is the REST by the second one of the REST by the first one" */
    private static void restBehindTwoWords(String text) {
        Letterpeel x = Build.of(text);
        for (int n = 0; n < 9; n++) {
            if (x.rest(0, n / 3, 1) > 0 && x.rest(1, n % 3, 2) > 0) {
                due.is(text + " behind " + wordOf(1, n / 3), x.text(1), x.restText(0, 1, n / 3));
                due.is(text + " behind " + wordOf(2, n), x.text(2), x.restText(0, 2, n));
                for (int last = 0; last < 3; last++) {
                    String whole = x.restText(0, 3, 3 * n + last);
                    due.is(text + " behind " + wordOf(3, 3 * n + last), x.restText(2, 1, last), whole);
                    due.is("by two LETTERS", x.restText(1, 2, n % 3 * 3 + last), whole);
                }
            }
        }
    }

    /** "an EXPRESSION and its PLAIN one take the same words, the PLAIN one has no more SIGNS, and .. it stays" */
    private static void plainTakesTheSame(String text) {
        Letterpeel x = Build.of(text);
        x.copy(0, 1);
        int signs = x.plain(1);
        due.is(text + " has no more SIGNS", signs <= x.signs(0), true);
        due.is("signs of PLAIN " + text, x.signs(1), signs);
        String plain = x.text(1);
        due.is("PLAIN again", x.plain(1) + x.text(1), signs + plain);
        due.is("REST behind the empty word", x.restText(0, 0, 0), plain);
        for (int length = 0; length <= 3; length++) {
            for (int n = 0; n < wordsOf(length); n++) {
                due.is(plain + " takes " + wordOf(length, n), x.takes(1, length, n, 1), x.takes(0, length, n, 1));
            }
        }
        due.is("rests of PLAIN " + text, x.rests(1), x.rests(0));
        due.is("same as PLAIN " + text, x.same(0, 1), x.rests(0) < 0 ? -9 : 1);
    }

    /** "how many words of a LENGTH are taken is the same by RESTS and one by one, and the k-th one is told so, too" */
    private static void countedAndTold(String text) {
        Letterpeel x = Build.of(text);
        if (x.rests(0) < 0) {
            return;
        }
        String first = "none";
        for (int length = 0; length <= 3; length++) {
            due.is(text + " listed " + length, x.listed(0, length), x.count(0, length));
            int k = 0;
            for (int n = 0; n < wordsOf(length); n++) {
                if (x.takes(0, length, n, 1) == 1) {
                    first = first.equals("none") ? wordOf(length, n) + "-" : first;
                    due.is(text + " word " + length + " " + k, x.word(0, length, k), n);
                    k++;
                }
            }
            due.is(text + " counted " + length, x.count(0, length), k);
            due.is(text + " no more of " + length, x.word(0, length, k), -1);
        }
        if (!first.equals("none") || x.rests(0) <= 4) {
            due.is(text + " first", x.first(0), first);
        }
    }

    /** "the TURNED EXPRESSION takes just the turned words" */
    private static void turnedTakesTurnedWords(String text) {
        Letterpeel x = Build.of(text);
        x.copy(0, 1);
        int turned = x.turn(1);
        due.is(text + " turn", turned == 1, !x.text(1).equals(text));
        due.is(text + " turned has as many SIGNS", x.signs(1), x.signs(0));
        for (int length = 0; length <= 3; length++) {
            for (int n = 0; n < wordsOf(length); n++) {
                String word = new StringBuilder(wordOf(length, n)).reverse().toString();
                due.is(x.text(1) + " takes " + word, x.takes(1, length, numberOf(word), 1), x.takes(0, length, n, 1));
            }
        }
        x.turn(1);
        due.is(text + " turned twice", x.text(1), text);
    }

    /** "one LETTERED anew just the words lettered so" */
    private static void letteredTakesLetteredWords(String text) {
        for (int way = 0; way < 6; way++) {
            Letterpeel x = Build.of(text);
            x.copy(0, 1);
            int lettered = x.letter(1, way);
            due.is(text + " letter by " + way, lettered == 1, !x.text(1).equals(text));
            due.is(text + " lettered has as many SIGNS", x.signs(1), x.signs(0));
            for (int length = 0; length <= 3; length++) {
                for (int n = 0; n < wordsOf(length); n++) {
                    StringBuilder word = new StringBuilder();
                    for (char letter : wordOf(length, n).toCharArray()) {
                        word.append(WAYS[way].charAt(letter - 'a'));
                    }
                    int taken = x.takes(1, length, numberOf(word.toString()), 1);
                    due.is(x.text(1) + " takes " + word, taken, x.takes(0, length, n, 1));
                }
            }
        }
    }

    private static void compared(String one, String other) {
        Letterpeel x = Build.of(one, other);
        String pair = one + " and " + other;
        int same = x.same(0, 1);
        String word = x.differ(0, 1);
        if (x.rests(0) < 0 || x.rests(1) < 0) {
            due.is(pair + " with a WIDE one", same + word + x.within(0, 1), "-9?-9");
            return;
        }
        due.is(pair + " same", same, word.equals("none") ? 1 : 0);
        due.is(pair + " same as within", same == 1, x.within(0, 1) == 1 && x.within(1, 0) == 1);
        alikeUpTo(x, pair, word);
        isWithin(x, pair);
    }

    /** "the word that is told is taken by just one of them, and no word ahead of it is" */
    private static void alikeUpTo(Letterpeel x, String pair, String word) {
        for (int length = 0; length <= 3; length++) {
            for (int n = 0; n < wordsOf(length); n++) {
                boolean alike = x.takes(0, length, n, 1) == x.takes(1, length, n, 1);
                if (word.equals(wordOf(length, n) + "-")) {
                    due.is(pair + " are unlike by " + word, alike, false);
                    return;
                }
                due.is(pair + " are alike by " + wordOf(length, n), alike, true);
            }
        }
        due.is(pair + " are alike", word, "none");
    }

    /** "one is WITHIN another one just if both with OR take what the other one does" */
    private static void isWithin(Letterpeel x, String pair) {
        x.or(0, 1, 2);
        if (x.rests(2) >= 0) {
            due.is(pair + " within", x.within(0, 1), x.same(2, 1));
            due.is(pair + " within the other way", x.within(1, 0), x.same(2, 0));
        }
    }

    /** "each of the twenty LAWS holds" */
    private static void eachLawHolds(List<String> ones, List<String> twos) {
        List<String> texts = new ArrayList<>(ones);
        texts.addAll(twos);
        for (String one : texts) {
            for (String other : texts) {
                for (String third : twos) {
                    Letterpeel x = Build.of(one, other, third);
                    for (int law = 0; law < 20; law++) {
                        due.is("law " + law + " of " + one + ", " + other + ", " + third,
                                x.law(law, 0, 1, 2) != 0, true);
                    }
                }
            }
        }
    }
}
