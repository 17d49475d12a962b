/** Promises 13 and 14, edge by edge: lend and giveBack. */
public final class EdgesOfLendingTest {
    public static void main(String[] args) throws IllegalAccessException {
        Due.all(EdgesOfLendingTest.class);
    }

    /** One copy with so many parts of each kind. */
    private static GameCafe with(int kind0, int kind1, int kind2, int kind3) {
        GameCafe cafe = new GameCafe();
        int[] parts = {kind0, kind1, kind2, kind3};
        for (int kind = 0; kind <= 3; kind++) {
            cafe.setParts(0, kind, Math.min(20, parts[kind]), 0);
        }
        cafe.buy(0);
        for (int kind = 0; kind <= 3; kind++) {
            cafe.count(0, kind, Math.max(0, parts[kind] - 20));
        }
        return cafe;
    }

    private static GameCafe lentWith(int kind0, int kind1, int kind2, int kind3) {
        GameCafe cafe = with(kind0, kind1, kind2, kind3);
        cafe.lend(0, 0);
        return cafe;
    }

    // ---- promise 13: lend

    static void promise13NoSuchCopy() {
        for (int copy : new int[] {Integer.MIN_VALUE, -1, 8, 14, 15, Integer.MAX_VALUE}) {
            Refused.busy(Due.INDEX, "lend(" + copy + ", 1)", cafe -> cafe.lend(copy, 1));
        }
        Refused.in(Cafes::fifteenCopies, Due.INDEX, "lend(15, 1)", cafe -> cafe.lend(15, 1));
    }

    static void promise13Copies0And14() {
        GameCafe cafe = Cafes.fifteenCopies();
        Due.is("lend(0, 0)", 5000, cafe.lend(0, 0));
        Due.is("lend(14, 1)", 5000, cafe.lend(14, 1));
        Due.is("whereIs(14)", GameCafe.LENT, cafe.whereIs(14));
        Due.is("whereIs(13)", GameCafe.SHELF, cafe.whereIs(13));
    }

    static void promise13Borrowers0To5EachForItself() {
        GameCafe cafe = Cafes.fifteenCopies();
        for (int borrower = 0; borrower <= 5; borrower++) {
            cafe.count(borrower, 0, borrower);
            Due.is("lend", 5000 + 100 * borrower, cafe.lend(borrower, borrower));
        }
        for (int borrower = 5; borrower >= 0; borrower--) {
            Due.is("giveBack", 5000 + 100 * borrower, cafe.giveBack(borrower, 0, 0));
            Due.is("its copy is back", GameCafe.SHELF, cafe.whereIs(borrower));
        }
    }

    static void promise13NoSuchBorrower() {
        for (int borrower : Cafes.outside(0, 5)) {
            Refused.busy(Due.INDEX, "lend(1, " + borrower + ")", cafe -> cafe.lend(1, borrower));
        }
    }

    static void promise13TheCopyIsAtATable() {
        Refused.busy(Due.STATE, "lend(0, 1)", cafe -> cafe.lend(0, 1));
        Refused.busy(Due.STATE, "lend(4, 5)", cafe -> cafe.lend(4, 5));
    }

    static void promise13TheCopyIsLent() {
        Refused.busy(Due.STATE, "to another one", cafe -> cafe.lend(2, 1));
        Refused.busy(Due.STATE, "to the same one", cafe -> cafe.lend(2, 3));
    }

    static void promise13TheBorrowerHasOne() {
        Refused.busy(Due.STATE, "of the same game", cafe -> cafe.lend(1, 3));
        Refused.busy(Due.STATE, "of another game", cafe -> cafe.lend(6, 0));
    }

    static void promise13BothTheCopyAndTheBorrower() {
        Refused.busy(Due.STATE, "at a table, and it has one", cafe -> cafe.lend(0, 3));
        Refused.busy(Due.STATE, "lent, and it has another one", cafe -> cafe.lend(2, 0));
    }

    static void promise13NoSuchBorrowerBeforeTheShelf() {
        Refused.busy(Due.INDEX, "lent, borrower 6", cafe -> cafe.lend(2, 6));
        Refused.busy(Due.INDEX, "at a table, borrower -1", cafe -> cafe.lend(0, -1));
    }

    static void promise13NoSuchCopyBeforeTheBorrowerHasOne() {
        Refused.busy(Due.INDEX, "copy 8, borrower 3", cafe -> cafe.lend(8, 3));
        Refused.busy(Due.INDEX, "copy -1, borrower 6", cafe -> cafe.lend(-1, 6));
    }

    static void promise13AfterTheBorrowerGaveBack() {
        GameCafe cafe = Cafes.busy();
        cafe.giveBack(3, 0, 0);
        Due.is("another copy", 5400, cafe.lend(7, 3));
        Due.is("its first copy, to another one", 5200, cafe.lend(2, 1));
    }

    static void promise13AfterTheGroupWent() {
        GameCafe cafe = Cafes.busy();
        cafe.go(0);
        Due.is("lend(0, 1)", 5200, cafe.lend(0, 1));
    }

    static void promise13APartOfKindKIsWorth100TimesKPlus1() {
        Due.is("one of kind 0", 100, with(1, 0, 0, 0).lend(0, 0));
        Due.is("one of kind 1", 200, with(0, 1, 0, 0).lend(0, 0));
        Due.is("one of kind 2", 300, with(0, 0, 1, 0).lend(0, 0));
        Due.is("one of kind 3", 400, with(0, 0, 0, 1).lend(0, 0));
    }

    static void promise13WithoutParts() {
        Due.is("no deposit", 0, with(0, 0, 0, 0).lend(0, 0));
    }

    static void promise13WithForty() {
        Due.is("40 of each kind", 40000, with(40, 40, 40, 40).lend(0, 0));
    }

    static void promise13WhatItHasThenNotWhatAWholeOneHas() {
        GameCafe cafe = with(5, 5, 5, 5);
        cafe.count(0, 3, -2);
        cafe.setParts(0, 3, 20, 20);
        Due.is("two of kind 3 are lost", 4200, cafe.lend(0, 0));
    }

    static void promise13ThoughItCannotBePlayed() {
        GameCafe cafe = Cafes.busy();
        Due.is("canBePlayed(3)", false, cafe.canBePlayed(3));
        Due.is("lend(3, 1)", 4600, cafe.lend(3, 1));
    }

    // ---- promise 14: giveBack

    static void promise14NoSuchBorrower() {
        for (int borrower : Cafes.outside(0, 5)) {
            Refused.busy(Due.INDEX, "giveBack(" + borrower + ")", cafe -> cafe.giveBack(borrower, 0, 0));
        }
    }

    static void promise14NoSuchKind() {
        for (int kind : Cafes.outside(0, 3)) {
            Refused.busy(Due.INDEX, "kind " + kind, cafe -> cafe.giveBack(3, kind, 0));
        }
    }

    static void promise14Kinds0To3EachForItself() {
        for (int kind = 0; kind <= 3; kind++) {
            GameCafe cafe = lentWith(5, 5, 5, 5);
            Due.is("giveBack", 5000 - 100 * (kind + 1), cafe.giveBack(0, kind, 1));
            for (int asked = 0; asked <= 3; asked++) {
                Due.is("parts(0, " + asked + ")", asked == kind ? 4 : 5, cafe.parts(0, asked));
            }
        }
    }

    static void promise14Missing0() {
        GameCafe cafe = lentWith(5, 5, 5, 5);
        Due.is("the whole deposit", 5000, cafe.giveBack(0, 3, 0));
        Due.is("parts(0, 3)", 5, cafe.parts(0, 3));
        Due.is("whereIs(0)", GameCafe.SHELF, cafe.whereIs(0));
    }

    static void promise14Missing0Of0() {
        GameCafe cafe = lentWith(5, 5, 5, 0);
        Due.is("the whole deposit", 3000, cafe.giveBack(0, 3, 0));
    }

    static void promise14Missing20() {
        GameCafe cafe = lentWith(0, 0, 0, 21);
        Due.is("of 21", 400, cafe.giveBack(0, 3, 20));
        Due.is("parts(0, 3)", 1, cafe.parts(0, 3));
    }

    static void promise14MissingBelow0OrAbove20() {
        for (int missing : Cafes.outside(0, 20)) {
            Refused.busy(Due.ARGUMENT, "missing " + missing, cafe -> cafe.giveBack(3, 0, missing));
        }
        Refused.in(() -> lentWith(0, 0, 0, 40), Due.ARGUMENT, "21 of 40", cafe -> cafe.giveBack(0, 3, 21));
    }

    static void promise14JustAsManyAsThereAre() {
        GameCafe cafe = lentWith(5, 0, 20, 5);
        Due.is("all 20", 2500, cafe.giveBack(0, 2, 20));
        Due.is("parts(0, 2)", 0, cafe.parts(0, 2));
    }

    static void promise14OneMoreThanThereAre() {
        Refused.in(() -> lentWith(5, 5, 19, 5), Due.STATE, "20 of 19", cafe -> cafe.giveBack(0, 2, 20));
        Refused.in(() -> lentWith(5, 0, 5, 5), Due.STATE, "1 of 0", cafe -> cafe.giveBack(0, 1, 1));
        Refused.busy(Due.STATE, "6 of 5", cafe -> cafe.giveBack(3, 0, 6));
    }

    static void promise14TheBorrowerHasNone() {
        for (int borrower : new int[] {1, 2, 4, 5}) {
            Refused.busy(Due.STATE, "giveBack(" + borrower + ")", cafe -> cafe.giveBack(borrower, 0, 0));
        }
    }

    static void promise14TheBorrowerHasNoneAnyMore() {
        GameCafe cafe = Cafes.busy();
        cafe.giveBack(3, 0, 0);
        Due.refuses("a second time", Due.STATE, () -> cafe.giveBack(3, 0, 0));
        Due.is("the other borrower has its own", 5000, cafe.giveBack(0, 0, 0));
    }

    static void promise14NoSuchBorrowerOrKindBeforeMissing() {
        Refused.busy(Due.INDEX, "borrower 6, missing 21", cafe -> cafe.giveBack(6, 0, 21));
        Refused.busy(Due.INDEX, "kind 4, missing -1", cafe -> cafe.giveBack(3, 4, -1));
        Refused.busy(Due.INDEX, "borrower -1, kind -1, missing 21", cafe -> cafe.giveBack(-1, -1, 21));
    }

    static void promise14NoSuchKindBeforeTheBorrowerHasNone() {
        Refused.busy(Due.INDEX, "kind 4", cafe -> cafe.giveBack(1, 4, 0));
        Refused.busy(Due.INDEX, "kind -1", cafe -> cafe.giveBack(1, -1, 0));
    }

    static void promise14MissingBeforeTheBorrowerHasNone() {
        Refused.busy(Due.ARGUMENT, "missing 21", cafe -> cafe.giveBack(1, 0, 21));
        Refused.busy(Due.ARGUMENT, "missing -1", cafe -> cafe.giveBack(1, 0, -1));
    }

    static void promise14MissingBeforeTheCopyHasNotSoMany() {
        Refused.busy(Due.ARGUMENT, "21 of 5", cafe -> cafe.giveBack(3, 0, 21));
    }

    static void promise14AllOfTheDepositCanBeLost() {
        Due.is("nothing is given back", 0, lentWith(0, 0, 20, 0).giveBack(0, 2, 20));
    }

    static void promise14TheDepositIsOfTheTimeOfLending() {
        GameCafe cafe = lentWith(5, 5, 5, 5);
        cafe.setParts(0, 3, 20, 20);
        cafe.advance(1000);
        Due.is("5000 - 400", 4600, cafe.giveBack(0, 3, 1));
    }

    static void promise14TheCopyIsBackAndCanBeLentFilledAndPlayed() {
        GameCafe cafe = Cafes.busy();
        cafe.giveBack(3, 1, 1);
        Due.is("filled", 1, cafe.fill(2, 1));
        Due.is("lent", 5200, cafe.lend(2, 3));
        cafe.giveBack(3, 1, 3);
        cafe.lend(1, 1);
        Due.is("played with what it needs", 2, cafe.copyOf(cafe.seat(2, 0, true)));
    }
}
