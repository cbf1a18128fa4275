import java.util.Random;

/** Long runs of calls, drawn by fixed seeds, on the class and on the model: their answers must be alike. */
public final class ModelTest {
    private static final int RUNS = 600;
    // A step makes three calls at most, and an object is used for 512 calls at most.
    private static final int STEPS = 170;
    private static final int[] FAR = {Integer.MIN_VALUE, Integer.MAX_VALUE, -2, -1, 6, 10, 61, 100, 127};

    private static final Due due = new Due("ModelTest");

    private final Random random;
    private final PressedFerns x = new PressedFerns();
    private final Model model = new Model();
    private final int wildness;

    private ModelTest(int run) {
        random = new Random(run);
        wildness = run % 4 == 0 ? 4 : 40;
    }

    public static void main(String[] args) {
        for (int run = 0; run < RUNS && !due.hasWrong(); run++) {
            ModelTest test = new ModelTest(run);
            for (int i = 0; i < STEPS && !due.hasWrong(); i++) {
                test.step("run " + run + ", step " + i + ": ");
            }
        }
        due.end();
    }

    /** A number from least to most, now and then one far from it. */
    private int n(int least, int most) {
        if (random.nextInt(wildness) == 0) {
            return random.nextBoolean() ? FAR[random.nextInt(FAR.length)] : least - 1 + (most - least + 2) * random.nextInt(2);
        }
        return least + random.nextInt(most - least + 1);
    }

    private int frond() {
        return n(0, Math.max(0, model.count(0) - 1));
    }

    private int person() {
        return n(0, 5);
    }

    private void step(String where) {
        switch (random.nextInt(24)) {
            case 0 -> onPage(where);
            case 1 -> onPage(where);
            case 2 -> about(where);
            case 3 -> about(where);
            case 4 -> snap(where);
            case 5 -> pay(where);
            case 6 -> pay(where);
            case 7 -> debt(where);
            case 8 -> debt(where);
            case 9 -> bank(where);
            case 10 -> fetch(where);
            case 11 -> month(where);
            case 12 -> june(where);
            case 13 -> least(where);
            case 14 -> least(where);
            case 15 -> ring(where);
            case 16 -> fewest(where);
            case 17 -> held(where);
            case 18 -> when(where);
            case 19 -> went(where);
            case 20 -> went(where);
            case 21 -> months(where);
            case 22 -> image(where);
            default -> all(where);
        }
    }

    private void onPage(String where) {
        int kind = random.nextInt(12);
        if (kind == 0) {
            due.is(where + "blank()", x.blank(), model.blank());
        } else if (kind < 3) {
            due.is(where + "fault()", x.fault(), model.fault());
        } else if (kind < 6) {
            int person = person();
            due.is(where + "book(" + person + ")", x.book(person), model.book(person));
        } else {
            long w = word();
            due.is(where + "letters(" + w + ")", x.letters(w), model.letters(w));
        }
    }

    private long word() {
        if (random.nextInt(wildness) == 0) {
            return random.nextLong() >>> random.nextInt(64);
        }
        StringBuilder text = new StringBuilder();
        String signs = random.nextInt(8) == 0 ? "bmpwx/:a~\u0001" : "bmpw";
        for (int i = random.nextInt(4); i >= 0; i--) {
            if (random.nextInt(3) > 0) {
                text.append(signs.charAt(random.nextInt(signs.length())));
            }
            text.append((char) ('0' + (random.nextInt(3) == 0 ? 9 : random.nextInt(10))));
        }
        return Ferns.coded(text.toString());
    }

    private void about(String where) {
        int frond = frond();
        int what = n(0, 7);
        due.is(where + "about(" + frond + ", " + what + ")", x.about(frond, what), model.about(frond, what));
        int kind = n(0, 4);
        due.is(where + "as(" + frond + ", " + kind + ")", x.as(frond, kind), model.as(frond, kind));
    }

    private void snap(String where) {
        int frond = frond();
        int leaflets = n(1, 8);
        if (random.nextInt(3) == 0) {
            due.is(where + "snap(" + frond + ", " + leaflets + ")", x.snap(frond, leaflets), model.snap(frond, leaflets));
        }
    }

    private void pay(String where) {
        int frond = frond();
        int to = person();
        due.is(where + "pay(" + frond + ", " + to + ")", x.pay(frond, to), model.pay(frond, to));
    }

    private void debt(String where) {
        int a = person();
        int b = person();
        int v = random.nextInt(3) == 0 ? n(0, 99) : n(0, 4);
        due.is(where + "debt(" + a + ", " + b + ", " + v + ")", x.debt(a, b, v), model.debt(a, b, v));
        int c = person();
        due.is(where + "owes(" + a + ", " + c + ")", x.owes(a, c), model.owes(a, c));
    }

    private void bank(String where) {
        int frond = frond();
        due.is(where + "bank(" + frond + ")", x.bank(frond), model.bank(frond));
    }

    private void fetch(String where) {
        for (int i = 0; i < 3; i++) {
            int frond = frond();
            int to = person();
            due.is(where + "fetch(" + frond + ", " + to + ")", x.fetch(frond, to), model.fetch(frond, to));
        }
    }

    private void month(String where) {
        boolean damp = random.nextInt(4) == 0;
        due.is(where + "month(" + damp + ")", x.month(damp), model.month(damp));
    }

    private void june(String where) {
        due.is(where + "june()", x.june(), model.june());
    }

    private void least(String where) {
        int payer = model.count(0) > 0 && random.nextInt(4) > 0 ? model.about(random.nextInt(model.count(0)), 2) : person();
        int sum = random.nextInt(4) == 0 ? n(1, 99) : n(1, 20);
        int what = n(0, 1);
        due.is(where + "least(" + payer + ", " + sum + ", " + what + ")",
            x.least(payer, sum, what), model.least(payer, sum, what));
    }

    private void ring(String where) {
        int what = random.nextBoolean() ? n(0, 1) : n(10, 15);
        due.is(where + "ring(" + what + ")", x.ring(what), model.ring(what));
        if (random.nextInt(4) == 0) {
            due.is(where + "clear()", x.clear(), model.clear());
        }
    }

    private void fewest(String where) {
        due.is(where + "fewest()", x.fewest(), model.fewest());
    }

    private void held(String where) {
        int frond = frond();
        int months = n(0, 9);
        int tenths = n(0, 10);
        int part = n(0, 1);
        due.is(where + "held(" + frond + ", " + months + ", " + tenths + ", " + part + ")",
            x.held(frond, months, tenths, part), model.held(frond, months, tenths, part));
    }

    private void when(String where) {
        int frond = frond();
        int months = n(0, 9);
        int tenths = n(0, 10);
        due.is(where + "when(" + frond + ", " + months + ", " + tenths + ")",
            x.when(frond, months, tenths), model.when(frond, months, tenths));
    }

    /** Asked most often in the way that the frond may really have gone. */
    private void went(String where) {
        int frond = frond();
        int tears = 0;
        while (tears < 4 && model.about(frond, 4 + tears) >= 0) {
            tears++;
        }
        int from = tears > 0 && random.nextInt(3) > 0 ? model.about(frond, 3 + tears) : person();
        int hands = random.nextInt(4) > 0 ? tears : n(0, 6);
        int months = hands < 5 ? n(0, 4) : n(0, 2);
        due.is(where + "went(" + frond + ", " + from + ", " + hands + ", " + months + ")",
            x.went(frond, from, hands, months), model.went(frond, from, hands, months));
    }

    private void months(String where) {
        int times = n(1, 60);
        int tenths = n(0, 10);
        int seed = random.nextInt(wildness) == 0 ? random.nextInt() : random.nextInt(1 << (1 + random.nextInt(30)));
        int what = n(0, 2);
        due.is(where + "months(" + times + ", " + tenths + ", " + seed + ", " + what + ")",
            x.months(times, tenths, seed, what), model.months(times, tenths, seed, what));
    }

    private void image(String where) {
        if (random.nextInt(3) == 0) {
            due.is(where + "image()", x.image(), model.image());
        } else {
            due.is(where + "restore()", x.restore(), model.restore());
        }
    }

    private void all(String where) {
        int what = n(0, 6);
        due.is(where + "count(" + what + ")", x.count(what), model.count(what));
        due.is(where + "digest()", x.digest(), model.digest());
    }
}
