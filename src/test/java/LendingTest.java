/** Promises 13 and 14: lend and giveBack. */
public final class LendingTest {
    public static void main(String[] args) {
        promise13DepositCoversTheParts();
        promise13OneCopyABorrower();
        promise13OnlyFromTheShelf();
        promise13Refusals();
        promise14DepositLessTheMissing();
        promise14MissingFromEachKind();
        promise14LentAgain();
        promise14EndsOfTheRanges();
        promise14Refusals();
        Due.end();
    }

    private static void promise13DepositCoversTheParts() {
        GameCafe cafe = new GameCafe();
        cafe.buy(0);
        cafe.buy(0);
        Due.is("a whole copy", 5000, cafe.lend(0, 0));
        cafe.count(1, 0, -5);
        cafe.count(1, 1, -4);
        cafe.count(1, 2, -3);
        cafe.count(1, 3, 20);
        Due.is("0 * 100 + 1 * 200 + 2 * 300 + 25 * 400", 10800, cafe.lend(1, 1));
        GameCafe most = new GameCafe();
        most.setParts(2, 0, 20, 0);
        most.buy(2);
        for (int kind = 1; kind < 4; kind++) {
            most.setParts(2, kind, 20, 0);
            most.count(0, kind, 15);
            most.count(0, kind, 20);
        }
        most.count(0, 0, 20);
        Due.is("forty of each kind", 40000, most.lend(0, 5));
        GameCafe least = new GameCafe();
        for (int kind = 0; kind < 4; kind++) {
            least.setParts(2, kind, 0, 0);
        }
        least.buy(2);
        Due.is("no parts", 0, least.lend(0, 0));
        Due.is("no deposit back", 0, least.giveBack(0, 3, 0));
    }

    private static void promise13OneCopyABorrower() {
        GameCafe cafe = new GameCafe();
        for (int copy = 0; copy < 7; copy++) {
            cafe.buy(copy % 5);
        }
        for (int borrower = 0; borrower < 6; borrower++) {
            Due.is("lend", 5000, cafe.lend(borrower, borrower));
        }
        for (int borrower = 0; borrower < 6; borrower++) {
            int asked = borrower;
            Due.refuses(asked + " has one", Due.STATE, () -> cafe.lend(6, asked));
        }
        Due.is("on the shelf still", GameCafe.SHELF, cafe.whereIs(6));
        cafe.giveBack(3, 0, 0);
        Due.is("3 has none", 5000, cafe.lend(6, 3));
        Due.is("lent", GameCafe.LENT, cafe.whereIs(6));
        Due.is("on the shelf", GameCafe.SHELF, cafe.whereIs(3));
    }

    private static void promise13OnlyFromTheShelf() {
        GameCafe cafe = new GameCafe();
        cafe.buy(0);
        cafe.seat(2, 0, true);
        Due.refuses("at a table", Due.STATE, () -> cafe.lend(0, 0));
        Due.refuses("borrower 0 has none", Due.STATE, () -> cafe.giveBack(0, 0, 0));
        Due.is("at the table still", GameCafe.TABLE, cafe.whereIs(0));
        cafe.count(0, 0, -5);
        cafe.go(0);
        Due.is("lent though it cannot be played", 4500, cafe.lend(0, 0));
        Due.refuses("lent already", Due.STATE, () -> cafe.lend(0, 1));
        Due.refuses("lent already, to the same", Due.STATE, () -> cafe.lend(0, 0));
        Due.refuses("borrower 1 has none", Due.STATE, () -> cafe.giveBack(1, 0, 0));
    }

    private static void promise13Refusals() {
        GameCafe cafe = new GameCafe();
        cafe.buy(0);
        Due.refuses("copy -1", Due.INDEX, () -> cafe.lend(-1, 0));
        Due.refuses("copy 1", Due.INDEX, () -> cafe.lend(1, 0));
        Due.refuses("borrower -1", Due.INDEX, () -> cafe.lend(0, -1));
        Due.refuses("borrower 6", Due.INDEX, () -> cafe.lend(0, 6));
        Due.is("on the shelf", GameCafe.SHELF, cafe.whereIs(0));
        cafe.lend(0, 5);
        Due.refuses("lent, borrower 6", Due.INDEX, () -> cafe.lend(0, 6));
        Due.refuses("copy 1, borrower has one", Due.INDEX, () -> cafe.lend(1, 5));
    }

    private static void promise14DepositLessTheMissing() {
        GameCafe cafe = new GameCafe();
        cafe.buy(0);
        cafe.lend(0, 4);
        Due.is("2 of kind 2 are missing", 4400, cafe.giveBack(4, 2, 2));
        Due.is("parts(0, 2)", 3, cafe.parts(0, 2));
        Due.is("whereIs(0)", GameCafe.SHELF, cafe.whereIs(0));
        Due.is("the deposit is less now", 4400, cafe.lend(0, 1));
        Due.is("none is missing", 4400, cafe.giveBack(1, 2, 0));
        Due.is("parts(0, 2) still", 3, cafe.parts(0, 2));
    }

    private static void promise14MissingFromEachKind() {
        for (int kind = 0; kind < 4; kind++) {
            GameCafe cafe = new GameCafe();
            cafe.buy(1);
            cafe.lend(0, 0);
            Due.is("3 of kind " + kind, 5000 - 3 * 100 * (kind + 1), cafe.giveBack(0, kind, 3));
            for (int other = 0; other < 4; other++) {
                Due.is("parts(0, " + other + ")", other == kind ? 2 : 5, cafe.parts(0, other));
            }
        }
    }

    private static void promise14LentAgain() {
        GameCafe cafe = new GameCafe();
        cafe.buy(0);
        cafe.buy(0);
        cafe.lend(0, 0);
        cafe.lend(1, 1);
        cafe.setParts(0, 0, 20, 0);
        Due.is("its own copy comes back", 4900, cafe.giveBack(1, 0, 1));
        Due.is("copy 1 lacks one", 4, cafe.parts(1, 0));
        Due.is("copy 0 lacks none", 5, cafe.parts(0, 0));
        Due.is("copy 0 is lent", GameCafe.LENT, cafe.whereIs(0));
        Due.is("copy 1 can be played", 1, cafe.copyOf(cafe.seat(2, 0, true)));
    }

    private static void promise14EndsOfTheRanges() {
        GameCafe cafe = new GameCafe();
        cafe.setParts(0, 3, 20, 20);
        cafe.buy(0);
        cafe.count(0, 3, 1);
        cafe.lend(0, 0);
        Due.is("20 are missing", 11400 - 8000, cafe.giveBack(0, 3, 20));
        Due.is("one is left", 1, cafe.parts(0, 3));
        cafe.lend(0, 0);
        Due.is("all are missing", 3000, cafe.giveBack(0, 3, 1));
        Due.is("none is left", 0, cafe.parts(0, 3));
        cafe.lend(0, 0);
        Due.refuses("more than there are", Due.STATE, () -> cafe.giveBack(0, 3, 1));
        Due.is("lent still", GameCafe.LENT, cafe.whereIs(0));
        Due.is("none of none", 3000, cafe.giveBack(0, 3, 0));
    }

    private static void promise14Refusals() {
        GameCafe cafe = new GameCafe();
        cafe.buy(0);
        Due.refuses("none lent", Due.STATE, () -> cafe.giveBack(0, 0, 0));
        Due.refuses("none lent, missing 21", Due.ARGUMENT, () -> cafe.giveBack(0, 0, 21));
        cafe.lend(0, 0);
        Due.refuses("borrower -1", Due.INDEX, () -> cafe.giveBack(-1, 0, 0));
        Due.refuses("borrower 6, missing 21", Due.INDEX, () -> cafe.giveBack(6, 0, 21));
        Due.refuses("kind -1", Due.INDEX, () -> cafe.giveBack(0, -1, 0));
        Due.refuses("kind 4, missing 21", Due.INDEX, () -> cafe.giveBack(0, 4, 21));
        Due.refuses("missing -1", Due.ARGUMENT, () -> cafe.giveBack(0, 0, -1));
        Due.refuses("missing 21", Due.ARGUMENT, () -> cafe.giveBack(0, 0, 21));
        Due.refuses("missing 6 of 5", Due.STATE, () -> cafe.giveBack(0, 0, 6));
        Due.is("parts still", 5, cafe.parts(0, 0));
        Due.is("lent still", GameCafe.LENT, cafe.whereIs(0));
        Due.is("missing 5 of 5", 4500, cafe.giveBack(0, 0, 5));
        Due.refuses("none any more", Due.STATE, () -> cafe.giveBack(0, 0, 0));
    }
}
