/** Promises 9 to 15. */
public final class HandsTest {
    private static final Due due = new Due("HandsTest");

    public static void main(String[] args) {
        promise9();
        promise9Refusals();
        promise10();
        promise11();
        promise12();
        promise13();
        promise14();
        promise15();
        promise15Full();
        due.end();
    }

    private static void promise9() {
        PressedFerns x = Ferns.with(1, "9b8m6");
        x.debt(1, 2, 20);
        x.debt(2, 1, 30);
        due.is("pay(0, 2)", x.pay(0, 2), 8);
        due.is("pay: owed by the one", x.owes(1, 2), 12);
        due.is("pay: owed by the other", x.owes(2, 1), 30);
        due.is("pay: owner", x.about(0, 2), 2);
        due.is("pay: leaflets", x.about(0, 1), 8);
        due.is("pay: tear", x.about(0, 4), 1);
        due.is("pay(1, 2)", x.pay(1, 2), 6);
        due.is("pay: owed then", x.owes(1, 2), 6);
        due.is("pay(2, 2)", x.pay(2, 2), 6);
        due.is("pay: just paid", x.owes(1, 2), 0);
        due.is("pay back", x.pay(0, 1), 7);
        due.is("pay back: owed", x.owes(2, 1), 23);
        due.is("pay more than is owed", x.pay(0, 2), 6);
        due.is("pay more than is owed: 0 at least", x.owes(1, 2), 0);
        due.is("pay: lost by hands", x.count(2), 5);
        due.is("pay: lost by mould", x.count(3), 0);
        PressedFerns empty = Ferns.with(0, "0");
        empty.debt(0, 1, 5);
        due.is("pay by nothing", empty.pay(0, 1), 0);
        due.is("pay by nothing: owed", empty.owes(0, 1), 5);
        due.is("pay by nothing: owner", empty.about(0, 2), 1);
        due.is("pay by nothing: tear", empty.about(0, 4), 0);
        due.is("pay by nothing: lost", empty.count(2), 0);
    }

    private static void promise9Refusals() {
        PressedFerns x = Ferns.with(1, "98");
        x.bank(1);
        for (int to : Ferns.NO_PERSON) {
            due.is("pay(0, " + to + ")", x.pay(0, to), Ferns.UNKNOWN);
            due.is("pay(1, " + to + ") at the bank", x.pay(1, to), Ferns.UNKNOWN);
        }
        for (int frond : new int[] {-1, 2, 10, Integer.MIN_VALUE, Integer.MAX_VALUE}) {
            due.is("pay(" + frond + ", 0)", x.pay(frond, 0), Ferns.UNKNOWN);
        }
        due.is("pay: at the bank", x.pay(1, 0), Ferns.STATE);
        due.is("pay: his", x.pay(0, 1), Ferns.STATE);
        due.is("pay: refused, leaflets", x.about(0, 1), 9);
        due.is("pay: refused, tears", x.about(0, 4), Ferns.NONE);
        due.is("pay: refused, lost", x.count(2), 1);
    }

    private static void promise10() {
        PressedFerns x = new PressedFerns();
        due.is("debt(0, 5, 99)", x.debt(0, 5, 99), 0);
        due.is("debt(0, 5, 7)", x.debt(0, 5, 7), 99);
        due.is("debt(5, 0, 3)", x.debt(5, 0, 3), 0);
        due.is("debt(0, 5, 0)", x.debt(0, 5, 0), 7);
        due.is("debt: owes(0, 5)", x.owes(0, 5), 0);
        due.is("debt: owes(5, 0)", x.owes(5, 0), 3);
        for (int v : new int[] {-1, 100, Integer.MIN_VALUE, Integer.MAX_VALUE}) {
            due.is("debt(5, 0, " + v + ")", x.debt(5, 0, v), Ferns.OUTSIDE);
            due.is("debt(2, 2, " + v + ")", x.debt(2, 2, v), Ferns.UNKNOWN);
        }
        for (int nobody : Ferns.NO_PERSON) {
            due.is("debt(" + nobody + ", 0, 100)", x.debt(nobody, 0, 100), Ferns.UNKNOWN);
            due.is("debt(0, " + nobody + ", 1)", x.debt(0, nobody, 1), Ferns.UNKNOWN);
            due.is("debt(" + nobody + ", same, 1)", x.debt(nobody, nobody, 1), Ferns.UNKNOWN);
        }
        due.is("debt(3, 3, 1)", x.debt(3, 3, 1), Ferns.UNKNOWN);
        due.is("debt: refused", x.count(6), 3);
    }

    private static void promise11() {
        PressedFerns x = new PressedFerns();
        for (int a = 0; a < 6; a++) {
            for (int b = 0; b < 6; b++) {
                x.debt(a, b, 10 * a + b);
            }
        }
        for (int a = 0; a < 6; a++) {
            for (int b = 0; b < 6; b++) {
                due.is("owes(" + a + ", " + b + ")", x.owes(a, b), a == b ? Ferns.UNKNOWN : 10 * a + b);
            }
            for (int nobody : Ferns.NO_PERSON) {
                due.is("owes(" + a + ", " + nobody + ")", x.owes(a, nobody), Ferns.UNKNOWN);
                due.is("owes(" + nobody + ", " + a + ")", x.owes(nobody, a), Ferns.UNKNOWN);
            }
        }
    }

    private static void promise12() {
        PressedFerns x = Ferns.with(3, "w8p9");
        x.debt(3, 0, 50);
        due.is("bank(0)", x.bank(0), 5);
        due.is("bank: owner", x.about(0, 2), Ferns.NONE);
        due.is("bank: tear", x.about(0, 4), 3);
        due.is("bank: lost", x.count(2), 3);
        due.is("bank: there", x.count(4), 1);
        due.is("bank: debts stay", x.count(6), 50);
        due.is("bank again", x.bank(0), Ferns.STATE);
        due.is("bank again: leaflets", x.about(0, 1), 5);
        due.is("bank a whole pressed one", x.bank(1), 9);
        due.is("bank: there then", x.count(4), 2);
        for (int frond : new int[] {-1, 2, 10, Integer.MIN_VALUE, Integer.MAX_VALUE}) {
            due.is("bank(" + frond + ")", x.bank(frond), Ferns.UNKNOWN);
        }
    }

    private static void promise13() {
        PressedFerns x = Ferns.with(3, "b8m4");
        due.is("fetch: not there", x.fetch(0, 1), Ferns.STATE);
        x.bank(0);
        due.is("fetch(0, 1)", x.fetch(0, 1), 6);
        due.is("fetch: owner", x.about(0, 2), 1);
        due.is("fetch: leaflets", x.about(0, 1), 6);
        due.is("fetch: tear", x.about(0, 4), 3);
        due.is("fetch: no other tear", x.about(0, 5), Ferns.NONE);
        due.is("fetch: lost", x.count(2), 2);
        due.is("fetch: at the bank", x.count(4), 0);
        due.is("fetch again", x.fetch(0, 1), Ferns.STATE);
        for (int nobody : Ferns.NO_PERSON) {
            due.is("fetch(0, " + nobody + ")", x.fetch(0, nobody), Ferns.UNKNOWN);
        }
        for (int frond : new int[] {-1, 2, 10, Integer.MIN_VALUE, Integer.MAX_VALUE}) {
            due.is("fetch(" + frond + ", 0)", x.fetch(frond, 0), Ferns.UNKNOWN);
        }
        x.bank(1);
        due.is("fetch to who had it", x.fetch(1, 3), 3);
        due.is("fetch to who had it: owner", x.about(1, 2), 3);
    }

    private static void promise14() {
        PressedFerns x = Ferns.with(0, "9b9m9p9w99");
        x.bank(5);
        due.is("month(false)", x.month(false), 0);
        due.is("month(false): all", x.count(1), 53);
        due.is("month(true)", x.month(true), 5);
        int[] then = {8, 8, 8, 9, 7, 8};
        for (int frond = 0; frond < then.length; frond++) {
            due.is("month: leaflets of " + frond, x.about(frond, 1), then[frond]);
        }
        due.is("month: lost by mould", x.count(3), 5);
        due.is("month: lost by hands", x.count(2), 1);
        due.is("month: no tear", x.about(0, 4), Ferns.NONE);
        x = Ferns.with(0, "0w1w01p3");
        due.is("month: what they have at most", x.month(true), 2);
        due.is("month: all", x.count(1), 3);
        due.is("month: nothing left to lose", x.month(true), 0);
        due.is("month: lost by mould together", x.count(3), 2);
        due.is("month without fronds", new PressedFerns().month(true), 0);
    }

    private static void promise15() {
        PressedFerns x = new PressedFerns();
        due.is("june without fronds", x.june(), 0);
        Ferns.come(x, 4, "b99");
        Ferns.come(x, 1, "p9");
        Ferns.come(x, 2, "8");
        x.pay(2, 0);
        x.bank(1);
        x.fetch(1, 4);
        due.is("june: whole ones", x.june(), 2);
        due.is("june: of a whole pressed one", x.about(4, 2), 0);
        due.is("june: once of two whole ones", x.about(5, 2), 4);
        due.is("june: kind", x.about(4, 0), 0);
        due.is("june: leaflets", x.about(4, 1), 9);
        due.is("june: tear", x.about(4, 4), Ferns.NONE);
        x = new PressedFerns();
        Ferns.come(x, 5, "9");
        Ferns.come(x, 0, "m99");
        Ferns.come(x, 3, "p9");
        x.bank(3);
        due.is("june: by number", x.june(), 2);
        due.is("june: first", x.about(4, 2), 0);
        due.is("june: second", x.about(5, 2), 5);
        due.is("june: none of one at the bank", x.count(0), 6);
        due.is("june: nothing is lost", x.count(2) + x.count(3), 0);
    }

    private static void promise15Full() {
        PressedFerns x = Ferns.with(5, "9999");
        Ferns.come(x, 2, "9");
        Ferns.come(x, 1, "9");
        Ferns.come(x, 4, "99");
        due.is("june: while there are fewer than ten", x.june(), 2);
        due.is("june: ninth", x.about(8, 2), 1);
        due.is("june: tenth", x.about(9, 2), 2);
        due.is("june: full", x.june(), 0);
        due.is("june: ten", x.count(0), 10);
    }
}
