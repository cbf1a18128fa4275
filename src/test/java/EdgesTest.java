import java.math.BigInteger;
import java.util.regex.Matcher;
import java.util.regex.Pattern;

/** Each sentence of the document that names a boundary, with the least and the greatest that it lets through. */
public final class EdgesTest {
    private static final Due due = new Due("EdgesTest");
    private static final String[] KINDS = {"", "b", "m", "p", "w"};

    public static void main(String[] args) {
        newObject();
        lettersByByte();
        lettersUpTo22();
        allShortTexts();
        booksOfOneToTen();
        whatIsAbout();
        asEachKind();
        snapEach();
        snapTwiceAndAll();
        fourTears();
        tearsByTheBank();
        paidNoMoreThanOwed();
        debtsFrom0To99();
        mouldOfEach();
        junesOfFourToTen();
        juneAsItBegins();
        leastJustEnough();
        leastOfLikeOnes();
        ringsOfTwoToSix();
        ringsOfOneUnit();
        clearedToTheEnd();
        fewestFrom0To5();
        fewestOfGreatSums();
        heldOfAll();
        heldAboveAnInt();
        whenOfAll();
        wentFrom0To6();
        wentOverAsManyMonths();
        monthsWithoutFronds();
        monthsBySizes();
        monthsMouldAheadOfHand();
        monthsOf60();
        imageOfTheLatest();
        countsOfFull();
        digestWraps();
        calls512();
        due.end();
    }

    // "No FRONDS, no DEBTS."
    private static void newObject() {
        PressedFerns x = new PressedFerns();
        for (int frond = -1; frond <= 10; frond++) {
            due.is("new: about(" + frond + ", 0)", x.about(frond, 0), Ferns.UNKNOWN);
        }
        due.is("new: blank()", x.blank(), 0);
        due.is("new: book(0)", x.book(0), Ferns.STATE);
        due.is("new: month(true)", x.month(true), 0);
        due.is("new: june()", x.june(), 0);
        due.is("new: least(0, 1, 0)", x.least(0, 1, 0), Ferns.NONE);
        due.is("new: ring(1)", x.ring(1), Ferns.NONE);
        due.is("new: clear()", x.clear(), Ferns.STATE);
        due.is("new: fewest()", x.fewest(), 0);
        due.is("new: image()", x.image(), 0);
        due.is("new: restore()", x.restore(), 0);
    }

    // "OUTSIDE: a byte above 126, or one behind a 0 that is not 0": each byte at each place.
    private static void lettersByByte() {
        for (int place = 0; place < 8; place++) {
            long ahead = place == 0 ? 0 : 0x6161616161616161L >>> (64 - 8 * place);
            for (int code = 0; code < 256; code++) {
                PressedFerns x = new PressedFerns();
                String call = "letters: " + code + " at " + place;
                int letters = code == 0 ? place : place + 1;
                long w = ahead | (long) code << (8 * place);
                due.is(call, x.letters(w), code > 126 ? Ferns.OUTSIDE : letters);
                due.is(call + ": count(5)", x.count(5), code > 126 ? 0 : letters);
                if (place > 0) {
                    // A 0 just ahead of it.
                    long broken = w & ~(255L << (8 * place - 8));
                    int much = code == 0 ? place - 1 : Ferns.OUTSIDE;
                    due.is(call + " behind a 0", new PressedFerns().letters(broken), much);
                }
            }
        }
        due.is("letters: just a last one", new PressedFerns().letters(1L << 56), Ferns.OUTSIDE);
        due.is("letters: eight of 126", new PressedFerns().letters(0x7e7e7e7e7e7e7e7eL), 8);
        due.is("letters: eight of 1", new PressedFerns().letters(0x0101010101010101L), 8);
    }

    // "FULL: above 22": from each length, each number of letters more.
    private static void lettersUpTo22() {
        for (int had = 0; had <= 22; had++) {
            for (int more = 0; more <= 8; more++) {
                PressedFerns x = new PressedFerns();
                Ferns.write(x, "5".repeat(had));
                int then = had + more;
                due.is("letters: " + had + " and " + more, x.letters(Ferns.coded("6".repeat(more))), then > 22 ? Ferns.FULL : then);
                due.is("letters: " + had + " and " + more + ", the page", x.blank(), then > 22 ? had : then);
            }
        }
    }

    // "The place (from 0) of the first letter of THE PAGE that no BOOK has there": all texts of up to four of eight signs.
    private static void allShortTexts() {
        String signs = "bmpw09x/";
        for (int length = 0; length <= 4; length++) {
            for (int number = 0; number < 1 << (3 * length); number++) {
                StringBuilder text = new StringBuilder();
                for (int i = 0; i < length; i++) {
                    text.append(signs.charAt(number >> (3 * i) & 7));
                }
                asBook(text.toString());
            }
        }
    }

    private static final Pattern BOOK = Pattern.compile("([bmpw]?[0-9]){1,10}");

    private static boolean canBeginABook(String text) {
        Matcher m = BOOK.matcher(text);
        return m.matches() || m.hitEnd() && !text.isEmpty() || text.isEmpty();
    }

    private static void asBook(String text) {
        int fault = 0;
        while (fault < text.length() && canBeginABook(text.substring(0, fault + 1))) {
            fault++;
        }
        PressedFerns x = new PressedFerns();
        Ferns.write(x, text);
        due.is("fault of '" + text + "'", x.fault(), fault);
        boolean isBook = BOOK.matcher(text).matches();
        int fronds = text.replaceAll("[^0-9]", "").length();
        due.is("book of '" + text + "'", x.book(3), isBook ? fronds : Ferns.STATE);
        due.is("book of '" + text + "': count(0)", x.count(0), isBook ? fronds : 0);
        due.is("book of '" + text + "': count(5)", x.count(5), isBook ? 0 : text.length());
    }

    // "one to ten FRONDS one behind the other"; "FULL: there would be more than ten FRONDS."
    private static void booksOfOneToTen() {
        for (int had = 0; had <= 10; had++) {
            for (int more = 1; more <= 11; more++) {
                PressedFerns x = new PressedFerns();
                if (had > 0) {
                    Ferns.come(x, 0, "7".repeat(had));
                }
                Ferns.write(x, "b3".repeat(more));
                int answer = more > 10 ? Ferns.STATE : had + more > 10 ? Ferns.FULL : more;
                String call = "book: " + had + " and " + more;
                due.is(call + ", fault", x.fault(), Math.min(20, 2 * more));
                due.is(call, x.book(1), answer);
                due.is(call + ", fronds", x.count(0), answer > 0 ? had + more : had);
                due.is(call + ", the page", x.count(5), answer > 0 ? 0 : 2 * more);
                due.is(call + ", the last", x.about(had + more - 1, 2), answer > 0 ? 1 : Ferns.UNKNOWN);
            }
        }
        asBook("0");
        asBook("w9".repeat(10));
        asBook("w9".repeat(10) + "w");
        asBook("w9".repeat(10) + "9");
        asBook("w9".repeat(11));
        asBook("9".repeat(10));
        asBook("9".repeat(10) + "w");
        asBook("9".repeat(11));
        asBook("9".repeat(22));
        asBook("b".repeat(22));
        asBook("w9".repeat(9) + "w");
        for (int person = 0; person < 6; person++) {
            due.is("book(" + person + "): owner", Ferns.with(person, "5").about(0, 2), person);
        }
    }

    // "what = 0 KIND, 1 LEAFLETS, 2 OWNER .., 3 what it would be worth behind a HAND, 4 to 7 TEARS"
    private static void whatIsAbout() {
        PressedFerns x = Ferns.with(5, "9w9");
        for (int to : new int[] {4, 3, 2, 1}) {
            x.pay(1, to);
        }
        int[] answers = {4, 0, 1, 0, 2, 3, 4, 5};
        int[] untouched = {0, 9, 5, 8, -1, -1, -1, -1};
        for (int what = -2; what <= 9; what++) {
            boolean isTold = what >= 0 && what <= 7;
            due.is("about(1, " + what + ")", x.about(1, what), isTold ? answers[what] : Ferns.OUTSIDE);
            due.is("about(0, " + what + ")", x.about(0, what), isTold ? untouched[what] : Ferns.OUTSIDE);
        }
    }

    // "All are FRONDS; a WET is BRACKEN, too": also the last of ten, also at the bank.
    private static void asEachKind() {
        PressedFerns x = Ferns.with(0, "b1b1b1b1b1m1p11b1w1");
        x.bank(9);
        int[] ofWet = {9, 9, -1, -1, 9};
        int[] ofBracken = {8, 8, -1, -1, -1};
        int[] ofFrond = {7, -1, -1, -1, -1};
        for (int kind = 0; kind < 5; kind++) {
            due.is("as(9, " + kind + ")", x.as(9, kind), ofWet[kind]);
            due.is("as(8, " + kind + ")", x.as(8, kind), ofBracken[kind]);
            due.is("as(7, " + kind + ")", x.as(7, kind), ofFrond[kind]);
        }
    }

    // "leaflets (1 to 8)"; "STATE: .. has no more than so many"
    private static void snapEach() {
        for (int kind = 0; kind < 5; kind++) {
            for (int had = 0; had <= 9; had++) {
                for (int off = 0; off <= 9; off++) {
                    PressedFerns x = Ferns.with(4, "5" + KINDS[kind] + had);
                    int answer = off < 1 || off > 8 ? Ferns.OUTSIDE : had <= off ? Ferns.STATE : 2;
                    String call = "snap(1, " + off + ") of '" + KINDS[kind] + had + "'";
                    due.is(call, x.snap(1, off), answer);
                    due.is(call + ": left", x.about(1, 1), answer == 2 ? had - off : had);
                    due.is(call + ": kind", x.about(1, 0), kind);
                    due.is(call + ": fronds", x.count(0), answer == 2 ? 3 : 2);
                    due.is(call + ": all leaflets", x.count(1), 5 + had);
                    if (answer == 2) {
                        due.is(call + ": the new one", x.about(2, 1), off);
                        due.is(call + ": the new one's kind", x.about(2, 0), 0);
                        due.is(call + ": the new one's owner", x.about(2, 2), 4);
                    }
                }
            }
        }
    }

    private static void snapTwiceAndAll() {
        PressedFerns x = Ferns.with(3, "p9");
        for (int i = 1; i <= 8; i++) {
            due.is("snap by ones: " + i, x.snap(0, 1), i);
        }
        due.is("snap by ones: one is left", x.snap(0, 1), Ferns.STATE);
        Ferns.come(x, 3, "2");
        due.is("snap of the tenth: STATE ahead of FULL", x.snap(9, 2), Ferns.STATE);
        due.is("snap of the tenth: FULL", x.snap(9, 1), Ferns.FULL);
        due.is("snap by ones: all together", x.count(1), 11);
    }

    // "the last four of them, the latest first"
    private static void fourTears() {
        PressedFerns x = Ferns.with(0, "9");
        int[] givers = new int[12];
        for (int hand = 0; hand < 12; hand++) {
            givers[hand] = x.about(0, 2);
            x.pay(0, (givers[hand] + 1 + hand % 5) % 6);
            for (int i = 0; i < 4; i++) {
                int due4 = hand - i >= 0 ? givers[hand - i] : Ferns.NONE;
                due.is("tear " + i + " behind hand " + (hand + 1), x.about(0, 4 + i), due4);
            }
        }
        due.is("twelve hands lose what it had at most", x.count(2), 9);
    }

    // "(a TEAR of who had it)"; "by no HAND"
    private static void tearsByTheBank() {
        PressedFerns x = Ferns.with(2, "9");
        int[] owners = {2, 5, 5, 0, 3, 3};
        for (int i = 0; i < owners.length; i++) {
            due.is("bank " + i, x.bank(0), Math.max(0, 8 - i));
            due.is("fetch " + i, x.fetch(0, i + 1 < owners.length ? owners[i + 1] : 4), Math.max(0, 8 - i));
            for (int tear = 0; tear < 4; tear++) {
                int due4 = i - tear >= 0 ? owners[i - tear] : Ferns.NONE;
                due.is("tear " + tear + " behind bank " + i, x.about(0, 4 + tear), due4);
            }
        }
        x = Ferns.with(2, "1");
        due.is("bank: nothing left", x.bank(0), 0);
        due.is("fetch: nothing left", x.fetch(0, 2), 0);
        due.is("bank: nothing to lose", x.bank(0), 0);
        due.is("bank: lost what it had", x.count(2), 1);
    }

    // "OWED by the one to the other so much less (0 at least)"
    private static void paidNoMoreThanOwed() {
        for (int owed = 0; owed <= 10; owed++) {
            PressedFerns x = Ferns.with(0, "9");
            x.debt(0, 1, owed);
            x.debt(1, 0, 50);
            x.debt(0, 2, 50);
            due.is("pay of " + owed, x.pay(0, 1), 8);
            due.is("pay of " + owed + ": owed then", x.owes(0, 1), Math.max(0, owed - 8));
            due.is("pay of " + owed + ": all other debts", x.count(6) - x.owes(0, 1), 100);
        }
        PressedFerns x = Ferns.with(0, "1w3b2");
        x.debt(0, 1, 5);
        due.is("pay of one leaflet", x.pay(0, 1), 0);
        due.is("pay of three, wet", x.pay(1, 1), 0);
        due.is("pay of two, bracken", x.pay(2, 1), 0);
        due.is("pay by nothing left: owed", x.owes(0, 1), 5);
        due.is("pay by nothing left: lost", x.count(2), 6);
    }

    // "One OWES another one v: what he did"; "v (0 to 99)"
    private static void debtsFrom0To99() {
        PressedFerns x = new PressedFerns();
        int before = 0;
        for (int v = -2; v <= 101; v++) {
            boolean isSum = v >= 0 && v <= 99;
            due.is("debt(5, 4, " + v + ")", x.debt(5, 4, v), isSum ? before : Ferns.OUTSIDE);
            before = isSum ? v : before;
            due.is("debt(5, 4, " + v + "): owes", x.owes(5, 4), before);
        }
        due.is("debt: the other one owes nothing", x.owes(4, 5), 0);
        for (int a = -1; a <= 6; a++) {
            for (int b = -1; b <= 6; b++) {
                boolean areTwo = a >= 0 && a < 6 && b >= 0 && b < 6 && a != b;
                due.holds("debt(" + a + ", " + b + ", 0)", (x.debt(a, b, 0) == Ferns.UNKNOWN) != areTwo);
                due.is("owes(" + a + ", " + b + ")", x.owes(a, b), areTwo ? 0 : Ferns.UNKNOWN);
            }
        }
    }

    // "By a DAMP month each FROND that is not at THE BANK loses one by MOULD, a PRESSED none, a WET two."
    private static void mouldOfEach() {
        int[] losses = {1, 1, 1, 0, 2};
        for (int kind = 0; kind < 5; kind++) {
            for (int had = 0; had <= 9; had++) {
                PressedFerns x = Ferns.with(1, KINDS[kind] + had);
                String of = " of '" + KINDS[kind] + had + "'";
                int lost = Math.min(had, losses[kind]);
                due.is("month(false)" + of, x.month(false), 0);
                due.is("month(true)" + of, x.month(true), lost);
                due.is("month: left" + of, x.about(0, 1), had - lost);
                due.is("month: lost" + of, x.count(3), lost);
                x.bank(0);
                int banked = x.about(0, 1);
                due.is("month at the bank" + of, x.month(true), 0);
                due.is("month at the bank, left" + of, x.about(0, 1), banked);
                due.is("month at the bank, lost" + of, x.count(3), lost);
            }
        }
    }

    // "by number, while there are fewer than ten FRONDS"
    private static void junesOfFourToTen() {
        for (int more = 0; more <= 4; more++) {
            PressedFerns x = new PressedFerns();
            for (int person = 5; person >= 0; person--) {
                Ferns.come(x, person, "9");
            }
            if (more > 0) {
                Ferns.come(x, 0, "9".repeat(more));
            }
            int growing = Math.min(6, 10 - 6 - more);
            due.is("june of " + (6 + more), x.june(), growing);
            for (int i = 0; i < growing; i++) {
                int frond = 6 + more + i;
                due.is("june of " + (6 + more) + ": owner of " + frond, x.about(frond, 2), i);
                due.is("june of " + (6 + more) + ": kind of " + frond, x.about(frond, 0), 0);
                due.is("june of " + (6 + more) + ": leaflets of " + frond, x.about(frond, 1), 9);
            }
            due.is("june of " + (6 + more) + ": fronds", x.count(0), 10);
            due.is("june of ten", x.june(), 0);
        }
        PressedFerns x = Ferns.with(0, "9");
        due.is("june: the first", x.june(), 1);
        due.is("june: the second, once for two", x.june(), 1);
        due.is("june: fronds", x.count(0), 3);
    }

    // "each PERSON who has a FROND of nine LEAFLETS (as JUNE begins)"
    private static void juneAsItBegins() {
        PressedFerns x = Ferns.with(3, "8b8m8p8w80");
        due.is("june: none of eight", x.june(), 0);
        for (int kind = 0; kind < 5; kind++) {
            x = Ferns.with(kind, KINDS[kind] + "9");
            due.is("june: of a whole '" + KINDS[kind] + "9'", x.june(), 1);
            due.is("june: of a whole '" + KINDS[kind] + "9', its kind", x.about(1, 0), 0);
            due.is("june: of a whole '" + KINDS[kind] + "9', its owner", x.about(1, 2), kind);
        }
        x = Ferns.with(3, "m9");
        x.bank(0);
        due.is("june: whole at the bank", x.june(), 0);
        x.fetch(0, 5);
        due.is("june: whole, fetched", x.june(), 1);
        due.is("june: whole, fetched: owner", x.about(1, 2), 5);
        due.is("june: no tears", x.about(1, 4), Ferns.NONE);
    }

    // "that would be worth the sum or more behind a HAND each"; "sum (1 to 99)"
    private static void leastJustEnough() {
        for (int kind = 0; kind < 5; kind++) {
            for (int had = 0; had <= 9; had++) {
                PressedFerns x = Ferns.with(0, KINDS[kind] + had);
                int behind = x.about(0, 3);
                for (int sum = 1; sum <= 10; sum++) {
                    String call = "least(0, " + sum + ") of '" + KINDS[kind] + had + "'";
                    due.is(call, x.least(0, sum, 0), sum <= behind ? had : Ferns.NONE);
                    due.is(call + ", which", x.least(0, sum, 1), sum <= behind ? 1 : Ferns.NONE);
                }
            }
        }
        PressedFerns x = Ferns.with(5, "m9".repeat(10));
        for (int sum = -1; sum <= 101; sum++) {
            int fronds = (sum + 8) / 9;
            int answer = sum < 1 || sum > 99 ? Ferns.OUTSIDE : fronds > 10 ? Ferns.NONE : 9 * fronds;
            due.is("least(5, " + sum + ", 0) of ten", x.least(5, sum, 0), answer);
            due.is("least(5, " + sum + ", 1) of ten", x.least(5, sum, 1), answer < 0 ? answer : (1 << fronds) - 1);
        }
    }

    // "of like ones fewest, then the least (bits, as a number)"
    private static void leastOfLikeOnes() {
        for (int place = 0; place < 9; place++) {
            // All like, but for one at the bank: the first ones that are left.
            PressedFerns x = Ferns.with(1, "5".repeat(10));
            x.bank(place);
            int two = place > 1 ? 3 : place == 1 ? 5 : 6;
            due.is("least: two of like ones without " + place, x.least(1, 8, 1), two);
            due.is("least: nine of them", x.least(1, 36, 1), 1023 - (1 << place));
            due.is("least: ten of them", x.least(1, 37, 1), Ferns.NONE);
        }
        PressedFerns x = Ferns.with(0, "m6m6w9p9b9");
        // 6 now: either male; of like ones the least.
        due.is("least: of like ones the least", x.least(0, 6, 1), 1);
        // 12 of both males; 9 of the pressed one is too little for ten.
        due.is("least: two", x.least(0, 10, 1), 3);
        due.is("least: one of nine", x.least(0, 9, 1), 8);
        // Fewest goes ahead of the least number: 9 of one, or of two of 3 and 6 (behind a hand: 2 and 6).
        x = Ferns.with(0, "3m6p9");
        due.is("least: fewest ahead of the least", x.least(0, 8, 1), 4);
        due.is("least: fewest ahead of the least, worth", x.least(0, 8, 0), 9);
    }

    // "A RING: PEOPLE, two or more, nobody twice": of each length, and a row of each length
    private static void ringsOfTwoToSix() {
        for (int length = 2; length <= 6; length++) {
            PressedFerns x = new PressedFerns();
            for (int i = 0; i + 1 < length; i++) {
                x.debt(5 - i, 4 - i, 20 + i);
            }
            due.is("a row of " + length + ": ring(0)", x.ring(0), 0);
            due.is("a row of " + length + ": ring(1)", x.ring(1), Ferns.NONE);
            due.is("a row of " + length + ": ring(10)", x.ring(10), Ferns.NONE);
            due.is("a row of " + length + ": clear()", x.clear(), Ferns.STATE);
            x.debt(6 - length, 5, 3);
            due.is("a ring of " + length + ": ring(0)", x.ring(0), length);
            due.is("a ring of " + length + ": ring(1)", x.ring(1), 3);
            for (int i = 0; i < 6; i++) {
                // From the least on: the least, then 5, 4, ..
                int person = i >= length ? Ferns.NONE : i == 0 ? 6 - length : 6 - i;
                due.is("a ring of " + length + ": ring(" + (10 + i) + ")", x.ring(10 + i), person);
            }
            due.is("a ring of " + length + ": clear()", x.clear(), 3);
            due.is("a ring of " + length + ": cleared", x.ring(0), 0);
            due.is("a ring of " + length + ": the last owes", x.owes(6 - length, 5), 0);
            due.is("a ring of " + length + ": the first owes", x.owes(5, 4), 17);
        }
    }

    // "each of whom OWES the next one something": one is something, 0 is nothing
    private static void ringsOfOneUnit() {
        PressedFerns x = Ferns.owing(0, 1, 1, 1, 0, 1);
        due.is("ring of 1 each", x.ring(1), 1);
        x.debt(1, 0, 0);
        due.is("ring with a 0", x.ring(0), 0);
        x.debt(1, 0, 99);
        x.debt(0, 1, 99);
        due.is("ring of 99 each", x.ring(1), 99);
        due.is("ring of 99 each: clear()", x.clear(), 99);
        due.is("ring of 99 each: none left", x.clear(), Ferns.STATE);
    }

    private static void clearedToTheEnd() {
        PressedFerns x = new PressedFerns();
        for (int a = 0; a < 6; a++) {
            for (int b = 0; b < 6; b++) {
                x.debt(a, b, 1 + a);
            }
        }
        int rounds = 0;
        int length = 6;
        while (rounds < 30 && x.ring(0) > 0) {
            int now = x.ring(0);
            int all = x.count(6);
            int least = x.ring(1);
            due.holds("clear: rings grow", now <= length);
            due.is("clear: round " + rounds, x.clear(), least);
            due.is("clear: all owed, round " + rounds, x.count(6), all - now * least);
            length = now;
            rounds++;
        }
        due.holds("clear: " + rounds + " rounds", rounds > 4 && rounds < 30);
        due.is("clear: at the end", x.clear(), Ferns.STATE);
        // Nobody's balance has changed: each owes 5 times 1 and a, and is owed 21 less 1 and a.
        for (int a = 0; a < 6; a++) {
            int balance = 0;
            for (int b = 0; b < 6; b++) {
                balance += a == b ? 0 : x.owes(a, b) - x.owes(b, a);
            }
            due.is("clear: balance of " + a, balance, 6 * (1 + a) - 21);
        }
    }

    // "6 less the most groups into which all PEOPLE can be put"
    private static void fewestFrom0To5() {
        for (int payers = 0; payers <= 5; payers++) {
            PressedFerns x = new PressedFerns();
            for (int i = 0; i < payers; i++) {
                x.debt(i, 5, 99);
            }
            due.is("fewest: " + payers + " owe one", x.fewest(), payers);
            for (int i = 0; i < payers; i++) {
                x.debt(5, i, 99);
            }
            due.is("fewest: " + payers + " and one, even", x.fewest(), 0);
        }
    }

    private static void fewestOfGreatSums() {
        PressedFerns x = new PressedFerns();
        for (int a = 0; a < 6; a++) {
            for (int b = 0; b < 6; b++) {
                x.debt(a, b, a < 3 ? 99 : 0);
            }
        }
        // 0, 1, 2 owe 297 each more than they are owed, 3, 4, 5 are owed it: three pairs.
        due.is("fewest: three pairs of 297", x.fewest(), 3);
        x.debt(0, 3, 98);
        due.is("fewest: one less", x.fewest(), 3);
        x.debt(1, 4, 97);
        due.is("fewest: two less", x.fewest(), 3);
        x.debt(1, 5, 98);
        due.is("fewest: a pair and four", x.fewest(), 4);
    }

    private static BigInteger power(int n, int times) {
        return BigInteger.valueOf(n).pow(times);
    }

    private static int mouldLeft(int kind, int had, int damp) {
        return Math.max(0, had - damp * new int[] {1, 1, 1, 0, 2}[kind]);
    }

    private static int behindHand(int kind, int had) {
        int lost = switch (kind) {
            case 1 -> 2;
            case 2 -> had > 5 ? 0 : 1;
            case 3 -> had == 9 ? 0 : 1;
            case 4 -> 3;
            default -> 1;
        };
        return Math.max(0, had - lost);
    }

    /** Of ten to the months. */
    private static BigInteger meanAbove(int kind, int had, int months, int tenths) {
        BigInteger above = BigInteger.ZERO;
        BigInteger choose = BigInteger.ONE;
        for (int damp = 0; damp <= months; damp++) {
            BigInteger chances = choose.multiply(power(tenths, damp)).multiply(power(10 - tenths, months - damp));
            above = above.add(chances.multiply(BigInteger.valueOf(behindHand(kind, mouldLeft(kind, had, damp)))));
            choose = choose.multiply(BigInteger.valueOf(months - damp)).divide(BigInteger.valueOf(damp + 1));
        }
        return above;
    }

    // "in lowest terms: part 0 above, 1 below"; months 0 to 9, tenths 0 to 10: all there are
    private static void heldOfAll() {
        for (int kind = 0; kind < 5; kind++) {
            for (int had = 0; had <= 9; had++) {
                for (int months = 0; months <= 9; months++) {
                    PressedFerns x = Ferns.with(0, KINDS[kind] + had);
                    for (int tenths = 0; tenths <= 10; tenths++) {
                        BigInteger above = meanAbove(kind, had, months, tenths);
                        BigInteger common = above.gcd(power(10, months));
                        String call = "held(0, " + months + ", " + tenths + ") of '" + KINDS[kind] + had + "'";
                        due.is(call + ", above", x.held(0, months, tenths, 0), above.divide(common).longValueExact());
                        due.is(call + ", below", x.held(0, months, tenths, 1), power(10, months).divide(common).longValueExact());
                    }
                    due.is("held changes nothing", x.about(0, 1), had);
                }
            }
        }
    }

    private static void heldAboveAnInt() {
        PressedFerns x = Ferns.with(0, "9");
        due.is("held above an int", x.held(0, 9, 1, 0), 7100000001L);
        due.is("held above an int, below", x.held(0, 9, 1, 1), 1000000000L);
        x.bank(0);
        for (int months = 0; months <= 9; months++) {
            for (int tenths = 0; tenths <= 10; tenths++) {
                due.is("held at the bank", x.held(0, months, tenths, 0), 7);
                due.is("held at the bank, below", x.held(0, months, tenths, 1), 1);
            }
        }
    }

    // "the greatest number of months (up to a told one) for which HELD is no less than for 0": all there are
    private static void whenOfAll() {
        for (int kind = 0; kind < 5; kind++) {
            for (int had = 0; had <= 9; had++) {
                PressedFerns x = Ferns.with(0, KINDS[kind] + had);
                for (int tenths = 0; tenths <= 10; tenths++) {
                    int last = 0;
                    for (int months = 0; months <= 9; months++) {
                        BigInteger before = meanAbove(kind, had, 0, tenths).multiply(power(10, months));
                        if (meanAbove(kind, had, months, tenths).compareTo(before) >= 0) {
                            last = months;
                        }
                        due.is("when(0, " + months + ", " + tenths + ") of '" + KINDS[kind] + had + "'",
                            x.when(0, months, tenths), last);
                    }
                }
                x.bank(0);
                for (int months = 0; months <= 9; months++) {
                    due.is("when(0, " + months + ", 10) at the bank", x.when(0, months, 10), months);
                }
            }
        }
    }

    // "rows of so many HANDS (0 to 6)": along a way that it really went, and no other number of hands
    private static void wentFrom0To6() {
        int[] people = {3, 1, 4, 0, 5, 2, 3};
        for (int gone = 0; gone <= 6; gone++) {
            PressedFerns x = Ferns.with(3, "9");
            for (int hand = 1; hand <= gone; hand++) {
                x.pay(0, people[hand]);
            }
            for (int hands = 0; hands <= 6; hands++) {
                for (int from = 0; from < 6; from++) {
                    due.is("went: gone " + gone + ", asked for " + hands + " from " + from,
                        x.went(0, from, hands, 0), hands == gone ? rows(people, gone, from) : 0);
                }
            }
        }
    }

    /** What is ahead of the last four givers is free, but for whom it begins with. */
    private static int rows(int[] people, int hands, int from) {
        int firstGiver = Math.max(0, hands - 4);
        if (firstGiver == 0) {
            return from == people[0] ? 1 : 0;
        }
        if (firstGiver == 1) {
            return from == people[1] ? 0 : 1;
        }
        return from == people[2] ? 5 : 4;
    }

    // "so many DAMP months (0 to 4) at any time between, ahead, behind"
    private static void wentOverAsManyMonths() {
        int[][] choose = {{1, 1, 1, 1, 1}, {1, 2, 3, 4, 5}, {1, 3, 6, 10, 15}, {1, 4, 10, 20, 35}, {1, 5, 15, 35, 70}};
        for (int hands = 0; hands <= 4; hands++) {
            for (int months = 0; months <= 4; months++) {
                PressedFerns x = Ferns.with(0, "9p9");
                for (int i = 0; i < hands; i++) {
                    x.pay(0, 1 + i);
                    x.pay(1, 1 + i);
                }
                for (int i = 0; i < months; i++) {
                    x.month(true);
                }
                for (int asked = 0; asked <= 4; asked++) {
                    String call = hands + " hands, " + months + " months, asked for " + asked;
                    due.is("went: " + call, x.went(0, 0, hands, asked), asked == months ? choose[hands][months] : 0);
                    // A pressed one takes no mould: any number of months can have been.
                    due.is("went, pressed: " + call, x.went(1, 0, hands, asked), choose[hands][asked]);
                }
            }
        }
    }

    // "without FRONDS just whether it is DAMP is drawn"
    private static void monthsWithoutFronds() {
        PressedFerns x = new PressedFerns();
        for (int seed : new int[] {0, 1, 12345, Integer.MAX_VALUE - 1, Integer.MAX_VALUE}) {
            for (int times : new int[] {1, 2, 59, 60}) {
                BigInteger s = BigInteger.valueOf(seed);
                int damp = 0;
                for (int i = 0; i < times; i++) {
                    s = next(s);
                    damp += s.shiftRight(16).mod(BigInteger.TEN).intValue() < 5 ? 1 : 0;
                }
                String call = "months(" + times + ", 5, " + seed + ") without fronds";
                due.is(call + ": leaflets", x.months(times, 5, seed, 0), 0);
                due.is(call + ": damp", x.months(times, 5, seed, 1), damp);
                due.is(call + ": seed", x.months(times, 5, seed, 2), s.longValue());
            }
        }
    }

    private static BigInteger next(BigInteger seed) {
        return seed.multiply(BigInteger.valueOf(1103515245)).add(BigInteger.valueOf(12345)).mod(BigInteger.TWO.pow(31));
    }

    // "the FROND by a DRAW of how many there are goes to the PERSON by a DRAW of 6 .., if another one has it"
    private static void monthsBySizes() {
        for (int size = 1; size <= 10; size++) {
            for (int seed = 0; seed < 40; seed++) {
                BigInteger first = next(BigInteger.valueOf(seed));
                BigInteger second = next(first);
                BigInteger third = next(second);
                int tenths = first.shiftRight(16).mod(BigInteger.TEN).intValue();
                int frond = second.shiftRight(16).mod(BigInteger.valueOf(size)).intValue();
                int person = third.shiftRight(16).mod(BigInteger.valueOf(6)).intValue();
                PressedFerns x = Ferns.with(2, "b9".repeat(size));
                String call = "months(1, .., " + seed + ") of " + size;
                int dry = person == 2 ? 9 * size : 9 * size - 2;
                due.is(call + ": dry", x.months(1, tenths, seed, 0), dry);
                due.is(call + ": damp", x.months(1, tenths + 1, seed, 0), dry - size);
                due.is(call + ": the seed", x.months(1, tenths, seed, 2), third.longValue());
                // Just the drawn one has no leaflets that a hand could take.
                x = new PressedFerns();
                Ferns.come(x, person == 2 ? 3 : 2, "9".repeat(frond) + "0" + "9".repeat(size - frond - 1));
                due.is(call + ": just the drawn one", x.months(1, 0, seed, 0), 9 * size - 9);
                x.bank(frond);
                due.is(call + ": the drawn one at the bank", x.months(1, 0, seed, 0), 9 * size - 9);
                due.is(call + ": the drawn one at the bank, the seed", x.months(1, 0, seed, 2), third.longValue());
            }
        }
    }

    // "it is DAMP, if ..; then the FROND ..": a male of six is one of five when the hand comes
    private static void monthsMouldAheadOfHand() {
        BigInteger third = next(next(next(BigInteger.ZERO)));
        int other = (third.shiftRight(16).mod(BigInteger.valueOf(6)).intValue() + 1) % 6;
        PressedFerns x = Ferns.with(other, "m6");
        due.is("months: a male of six, damp", x.months(1, 10, 0, 0), 4);
        due.is("months: a male of six, dry", x.months(1, 0, 0, 0), 6);
        x.bank(0);
        due.is("months: a male of six at the bank", x.months(60, 10, 0, 0), 6);
    }

    // "times (1 to 60), tenths (0 to 10), seed (0 at least)"
    private static void monthsOf60() {
        PressedFerns x = Ferns.with(0, "m9p9999");
        for (int times = 0; times <= 61; times++) {
            boolean isTold = times > 0 && times < 61;
            due.is("months(" + times + ", 0, ..)", x.months(times, 0, 7, 1), isTold ? 0 : Ferns.OUTSIDE);
            due.is("months(" + times + ", 10, ..)", x.months(times, 10, 7, 1), isTold ? times : Ferns.OUTSIDE);
        }
        for (int tenths = -1; tenths <= 11; tenths++) {
            int damp = x.months(60, tenths, 7, 1);
            due.holds("months: tenths " + tenths, tenths < 0 || tenths > 10 ? damp == Ferns.OUTSIDE : damp >= 0 && damp <= 60);
        }
        due.is("months: they change nothing", x.count(1), 45);
        // A chain of months is one longer run.
        int seed = x.months(1, 0, 0, 2);
        for (int i = 2; i <= 60; i++) {
            int further = new PressedFerns().months(1, 0, seed, 2);
            due.holds("months: the seed is 0 at least", seed >= 0 && further >= 0);
            seed = further;
        }
    }

    // "An IMAGE is kept (one; the latest)"; "(FRONDS that came since are gone)"
    private static void imageOfTheLatest() {
        PressedFerns x = new PressedFerns();
        for (int size = 1; size <= 10; size++) {
            Ferns.come(x, size % 6, "9");
            due.is("image of " + size, x.image(), size);
        }
        x.bank(9);
        due.is("image: restore ten", x.restore(), 10);
        due.is("image: restore ten, the last", x.about(9, 2), 4);
        due.is("image: restore ten again", x.restore(), 10);
        PressedFerns fewer = Ferns.with(0, "99");
        fewer.image();
        Ferns.come(fewer, 1, "99999999");
        due.is("image: ten then", fewer.count(0), 10);
        due.is("image: two again", fewer.restore(), 2);
        due.is("image: those since are gone", fewer.about(2, 0), Ferns.UNKNOWN);
        due.is("image: room for eight", Ferns.come(fewer, 1, "55555555"), 8);
        due.is("image: the new ones", fewer.about(9, 1), 5);
        due.is("image: of ten", fewer.image(), 10);
        due.is("image: ten again", fewer.restore(), 10);
    }

    // "How many: 0 FRONDS .. 6 what all OWE together": 0 of all, and as many as there can be
    private static void countsOfFull() {
        PressedFerns x = Ferns.with(0, "9".repeat(10));
        Ferns.write(x, "~".repeat(22));
        for (int frond = 0; frond < 10; frond++) {
            x.month(true);
            x.bank(frond);
        }
        for (int a = 0; a < 6; a++) {
            for (int b = 0; b < 6; b++) {
                x.debt(a, b, 99);
            }
        }
        // Frond n takes n and one moulds, then a hand: 9 and 10 of 9 leaflets are left without any.
        int byMould = 1 + 2 + 3 + 4 + 5 + 6 + 7 + 8 + 9 + 9;
        int byHands = 8;
        int[] counts = {10, 90 - byMould - byHands, byHands, byMould, 10, 22, 2970};
        for (int what = -1; what <= 7; what++) {
            due.is("full: count(" + what + ")", x.count(what), what < 0 || what > 6 ? Ferns.OUTSIDE : counts[what]);
        }
    }

    // "31 times h, and it (as longs, wrapping)"
    private static void digestWraps() {
        PressedFerns x = Ferns.with(0, "9b8m7p6w59876");
        Ferns.write(x, "~b");
        x.debt(0, 1, 5);
        x.debt(1, 0, 5);
        BigInteger h = BigInteger.valueOf(661);
        for (int frond = 0; frond < 9; frond++) {
            for (int what = 0; what <= 7; what++) {
                h = then(h, x.about(frond, what));
            }
            h = then(then(h, x.held(frond, 3, 5, 0)), x.held(frond, 3, 5, 1));
        }
        for (int a = 0; a < 6; a++) {
            for (int b = 0; b < 6; b++) {
                h = a == b ? h : then(h, x.owes(a, b));
            }
        }
        for (int what : new int[] {0, 1, 10, 11, 12, 13, 14, 15}) {
            h = then(h, x.ring(what));
        }
        h = then(h, x.fewest());
        for (int person = 0; person < 6; person++) {
            h = then(then(h, x.least(person, 7, 0)), x.least(person, 7, 1));
        }
        h = then(then(h, '~'), 'b');
        for (int what = 0; what <= 6; what++) {
            h = then(h, x.count(what));
        }
        due.is("digest, without end, then its lowest 64 bits", x.digest(), h.longValue());
        due.holds("digest goes far above a long", h.bitLength() > 500);
    }

    private static BigInteger then(BigInteger h, long it) {
        return h.multiply(BigInteger.valueOf(31)).add(BigInteger.valueOf(it));
    }

    // "An object is used for at most 512 calls"
    private static void calls512() {
        PressedFerns x = new PressedFerns();
        for (int round = 0; round < 170; round++) {
            due.is("round " + round + ": letters", x.letters('0' + round % 10), 1);
            due.is("round " + round + ": book", x.book(round % 6), round < 10 ? 1 : Ferns.FULL);
            due.is("round " + round + ": blank", x.blank(), round < 10 ? 0 : 1);
        }
        due.is("call 511", x.count(1), 45);
        due.is("call 512", x.fewest(), 0);
    }
}
