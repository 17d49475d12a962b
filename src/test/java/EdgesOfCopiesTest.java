/** Promises 6 to 8 and 16 to 19, edge by edge: buy, count, fill, copies, parts, canBePlayed, whereIs. */
public final class EdgesOfCopiesTest {
    public static void main(String[] args) throws IllegalAccessException {
        Due.all(EdgesOfCopiesTest.class);
    }

    /** Two copies of game 0 with so many parts of kind 1, of which a whole copy has 5. */
    private static GameCafe pair(int first, int second) {
        GameCafe cafe = new GameCafe();
        cafe.buy(0);
        cafe.buy(0);
        cafe.count(0, 1, first - 5);
        cafe.count(1, 1, second - 5);
        return cafe;
    }

    // ---- promise 6: buy

    static void promise6Games0To4() {
        GameCafe cafe = new GameCafe();
        for (int game = 0; game <= 4; game++) {
            cafe.setParts(game, 0, 10 + game, 0);
            Due.is("buy(" + game + ")", game, cafe.buy(game));
            Due.is("parts of its game", 10 + game, cafe.parts(game, 0));
        }
    }

    static void promise6NoSuchGame() {
        for (int game : Cafes.outside(0, 4)) {
            Refused.busy(Due.INDEX, "buy(" + game + ")", cafe -> cafe.buy(game));
        }
    }

    static void promise6TheFirstCopyIs0AndTheLast14() {
        GameCafe cafe = new GameCafe();
        for (int copy = 0; copy <= 14; copy++) {
            Due.is("buy(2)", copy, cafe.buy(2));
        }
        Due.is("copies()", 15, cafe.copies());
    }

    static void promise6NoSixteenthCopy() {
        for (int g = 0; g <= 4; g++) {
            int game = g;
            Refused.in(Cafes::fifteenCopies, Due.STATE, "buy(" + game + ")", cafe -> cafe.buy(game));
        }
    }

    static void promise6NoSuchGameBeforeFifteenCopies() {
        Refused.in(Cafes::fifteenCopies, Due.INDEX, "buy(-1)", cafe -> cafe.buy(-1));
        Refused.in(Cafes::fifteenCopies, Due.INDEX, "buy(5)", cafe -> cafe.buy(5));
    }

    static void promise6ARefusedCopyTakesNoNumber() {
        GameCafe cafe = new GameCafe();
        cafe.buy(0);
        Due.refuses("buy(5)", Due.INDEX, () -> cafe.buy(5));
        Due.is("the next number", 1, cafe.buy(0));
    }

    static void promise6BoughtWholeThoughNotPlayableParts() {
        GameCafe cafe = new GameCafe();
        cafe.setParts(3, 2, 0, 0);
        cafe.setParts(3, 3, 20, 20);
        cafe.buy(3);
        Due.is("none of kind 2", 0, cafe.parts(0, 2));
        Due.is("20 of kind 3", 20, cafe.parts(0, 3));
        Due.is("on the shelf", GameCafe.SHELF, cafe.whereIs(0));
        Due.is("can be played", true, cafe.canBePlayed(0));
    }

    // ---- promise 7: count

    static void promise7CopyNotBoughtYet() {
        for (int copy : new int[] {Integer.MIN_VALUE, -1, 8, 14, 15, Integer.MAX_VALUE}) {
            Refused.busy(Due.INDEX, "count(" + copy + ")", cafe -> cafe.count(copy, 0, 1));
        }
    }

    static void promise7Copy14And15() {
        GameCafe full = Cafes.fifteenCopies();
        Due.is("count(14, 3, 1)", 6, full.count(14, 3, 1));
        Refused.in(Cafes::fifteenCopies, Due.INDEX, "count(15, 3, 1)", cafe -> cafe.count(15, 3, 1));
    }

    static void promise7Kinds0To3EachForItself() {
        for (int kind = 0; kind <= 3; kind++) {
            GameCafe cafe = new GameCafe();
            cafe.buy(0);
            Due.is("count", 7, cafe.count(0, kind, 2));
            for (int asked = 0; asked <= 3; asked++) {
                Due.is("parts(0, " + asked + ")", asked == kind ? 7 : 5, cafe.parts(0, asked));
            }
        }
    }

    static void promise7NoSuchKind() {
        for (int kind : Cafes.outside(0, 3)) {
            Refused.busy(Due.INDEX, "kind " + kind, cafe -> cafe.count(1, kind, 1));
        }
    }

    static void promise7Change20() {
        GameCafe cafe = pair(5, 5);
        Due.is("20 found", 25, cafe.count(0, 1, 20));
    }

    static void promise7ChangeMinus20() {
        GameCafe cafe = pair(25, 5);
        Due.is("20 lost", 5, cafe.count(0, 1, -20));
    }

    static void promise7ChangeBelowMinus20OrAbove20() {
        for (int change : Cafes.outside(-20, 20)) {
            Refused.busy(Due.ARGUMENT, "change " + change, cafe -> cafe.count(1, 0, change));
        }
        Refused.in(() -> pair(25, 5), Due.ARGUMENT, "21 lost of 25", cafe -> cafe.count(0, 1, -21));
    }

    static void promise7Change0() {
        GameCafe cafe = pair(3, 5);
        Due.is("none", 3, cafe.count(0, 1, 0));
        Due.is("parts(0, 1)", 3, cafe.parts(0, 1));
    }

    static void promise7ToExactly0() {
        GameCafe cafe = pair(5, 5);
        Due.is("all lost", 0, cafe.count(0, 1, -5));
        Due.is("none lost of none", 0, cafe.count(0, 1, 0));
    }

    static void promise7Below0() {
        Refused.in(() -> pair(5, 5), Due.STATE, "6 lost of 5", cafe -> cafe.count(0, 1, -6));
        Refused.in(() -> pair(0, 5), Due.STATE, "1 lost of 0", cafe -> cafe.count(0, 1, -1));
        Refused.in(() -> pair(19, 5), Due.STATE, "20 lost of 19", cafe -> cafe.count(0, 1, -20));
    }

    private static GameCafe with40() {
        GameCafe cafe = pair(25, 5);
        cafe.count(0, 1, 15);
        return cafe;
    }

    static void promise7ToExactly40() {
        GameCafe cafe = pair(25, 5);
        Due.is("15 found", 40, cafe.count(0, 1, 15));
        Due.is("none found at 40", 40, cafe.count(0, 1, 0));
    }

    static void promise7Above40() {
        Refused.in(() -> pair(25, 5), Due.STATE, "16 found at 25", cafe -> cafe.count(0, 1, 16));
        Refused.in(EdgesOfCopiesTest::with40, Due.STATE, "1 found at 40", cafe -> cafe.count(0, 1, 1));
        Refused.in(EdgesOfCopiesTest::with40, Due.STATE, "20 found at 40", cafe -> cafe.count(0, 1, 20));
    }

    static void promise7MoreThanWhole() {
        GameCafe cafe = pair(5, 5);
        Due.is("one more than whole", 6, cafe.count(0, 1, 1));
    }

    static void promise7TheCopyIsLent() {
        for (int change : new int[] {-20, -1, 0, 1, 20}) {
            Refused.busy(Due.STATE, "change " + change + " of a lent one", cafe -> cafe.count(2, 0, change));
        }
    }

    static void promise7TheCopyIsAtATable() {
        GameCafe cafe = Cafes.busy();
        Due.is("found at a table", 6, cafe.count(0, 0, 1));
        Due.is("lost at a table", 0, cafe.count(0, 0, -6));
        Due.is("the group plays on", 0, cafe.copyOf(0));
    }

    static void promise7TheCopyIsBack() {
        GameCafe cafe = Cafes.busy();
        cafe.giveBack(3, 0, 0);
        Due.is("found on the shelf", 6, cafe.count(2, 0, 1));
    }

    static void promise7NoSuchCopyOrKindBeforeChange() {
        Refused.busy(Due.INDEX, "copy 8, change 21", cafe -> cafe.count(8, 0, 21));
        Refused.busy(Due.INDEX, "kind 4, change -21", cafe -> cafe.count(1, 4, -21));
        Refused.busy(Due.INDEX, "copy -1, kind -1, change 21", cafe -> cafe.count(-1, -1, 21));
    }

    static void promise7NoSuchKindBeforeLent() {
        Refused.busy(Due.INDEX, "kind 4 of a lent one", cafe -> cafe.count(2, 4, 1));
    }

    static void promise7ChangeBeforeLentAndTooManyOrFew() {
        Refused.busy(Due.ARGUMENT, "change 21 of a lent one", cafe -> cafe.count(2, 0, 21));
        Refused.busy(Due.ARGUMENT, "21 lost of 5", cafe -> cafe.count(1, 0, -21));
        Refused.in(EdgesOfCopiesTest::with40, Due.ARGUMENT, "21 found at 40", cafe -> cafe.count(0, 1, 21));
    }

    // ---- promise 8: fill

    static void promise8NoSuchCopy() {
        for (int copy : new int[] {Integer.MIN_VALUE, -1, 8, 14, 15, Integer.MAX_VALUE}) {
            Refused.busy(Due.INDEX, "fill(" + copy + ", 1)", cafe -> cafe.fill(copy, 1));
        }
    }

    static void promise8NoSuchFrom() {
        for (int from : new int[] {Integer.MIN_VALUE, -1, 8, 14, 15, Integer.MAX_VALUE}) {
            Refused.busy(Due.INDEX, "fill(3, " + from + ")", cafe -> cafe.fill(3, from));
        }
    }

    static void promise8Copies13And14() {
        GameCafe cafe = Cafes.fifteenCopies();
        cafe.count(14, 0, -2);
        Due.is("fill(14, 13)", 2, cafe.fill(14, 13));
        Due.is("fill(13, 14)", 2, cafe.fill(13, 14));
    }

    static void promise8BothTheSame() {
        Refused.busy(Due.ARGUMENT, "fill(3, 3)", cafe -> cafe.fill(3, 3));
    }

    static void promise8UnlikeGames() {
        Refused.busy(Due.ARGUMENT, "fill(3, 6)", cafe -> cafe.fill(3, 6));
        Refused.busy(Due.ARGUMENT, "fill(6, 3)", cafe -> cafe.fill(6, 3));
    }

    static void promise8TheFilledOneIsNotOnTheShelf() {
        Refused.busy(Due.STATE, "at a table", cafe -> cafe.fill(0, 1));
        Refused.busy(Due.STATE, "lent", cafe -> cafe.fill(2, 1));
    }

    static void promise8TheOtherOneIsNotOnTheShelf() {
        Refused.busy(Due.STATE, "at a table", cafe -> cafe.fill(3, 0));
        Refused.busy(Due.STATE, "lent", cafe -> cafe.fill(3, 2));
    }

    static void promise8NeitherIsOnTheShelf() {
        Refused.busy(Due.STATE, "at a table, from a lent one", cafe -> cafe.fill(0, 2));
        Refused.busy(Due.STATE, "lent, from one at a table", cafe -> cafe.fill(2, 0));
    }

    static void promise8NoSuchCopyBeforeTheSame() {
        Refused.busy(Due.INDEX, "fill(8, 8)", cafe -> cafe.fill(8, 8));
        Refused.busy(Due.INDEX, "fill(-1, -1)", cafe -> cafe.fill(-1, -1));
    }

    static void promise8NoSuchCopyBeforeTheShelf() {
        Refused.busy(Due.INDEX, "fill(0, 8)", cafe -> cafe.fill(0, 8));
        Refused.busy(Due.INDEX, "fill(8, 2)", cafe -> cafe.fill(8, 2));
    }

    static void promise8TheSameBeforeTheShelf() {
        Refused.busy(Due.ARGUMENT, "fill(0, 0) at a table", cafe -> cafe.fill(0, 0));
        Refused.busy(Due.ARGUMENT, "fill(2, 2), lent", cafe -> cafe.fill(2, 2));
    }

    static void promise8UnlikeGamesBeforeTheShelf() {
        Refused.busy(Due.ARGUMENT, "fill(6, 0) from a table", cafe -> cafe.fill(6, 0));
        Refused.busy(Due.ARGUMENT, "fill(5, 3), lent", cafe -> cafe.fill(5, 3));
    }

    static void promise8BothWholeNothingComesOver() {
        GameCafe cafe = pair(5, 5);
        Due.is("fill(0, 1)", 0, cafe.fill(0, 1));
        Due.is("parts(0, 1)", 5, cafe.parts(0, 1));
        Due.is("parts(1, 1)", 5, cafe.parts(1, 1));
    }

    static void promise8AllThatItLacks() {
        GameCafe cafe = pair(0, 7);
        Due.is("five of seven", 5, cafe.fill(0, 1));
        Due.is("parts(0, 1)", 5, cafe.parts(0, 1));
        Due.is("parts(1, 1)", 2, cafe.parts(1, 1));
    }

    static void promise8JustAsManyAsItLacks() {
        GameCafe cafe = pair(2, 3);
        Due.is("three of three", 3, cafe.fill(0, 1));
        Due.is("parts(0, 1)", 5, cafe.parts(0, 1));
        Due.is("parts(1, 1)", 0, cafe.parts(1, 1));
    }

    static void promise8OneFewerThanItLacks() {
        GameCafe cafe = pair(2, 2);
        Due.is("two of two", 2, cafe.fill(0, 1));
        Due.is("parts(0, 1)", 4, cafe.parts(0, 1));
        Due.is("parts(1, 1)", 0, cafe.parts(1, 1));
    }

    static void promise8TheOtherOneHasNone() {
        GameCafe cafe = pair(2, 0);
        Due.is("fill(0, 1)", 0, cafe.fill(0, 1));
        Due.is("parts(0, 1)", 2, cafe.parts(0, 1));
        Due.is("parts(1, 1)", 0, cafe.parts(1, 1));
    }

    static void promise8MoreThanWholeGivesNothingBack() {
        GameCafe cafe = pair(9, 2);
        Due.is("fill(0, 1)", 0, cafe.fill(0, 1));
        Due.is("parts(0, 1)", 9, cafe.parts(0, 1));
        Due.is("parts(1, 1)", 2, cafe.parts(1, 1));
    }

    static void promise8EachKindForItself() {
        GameCafe cafe = new GameCafe();
        cafe.buy(0);
        cafe.buy(0);
        for (int kind = 0; kind <= 3; kind++) {
            cafe.count(0, kind, -1 - kind);
        }
        cafe.count(1, 3, -2);
        Due.is("1 and 2 and 3 and 3 of 4", 9, cafe.fill(0, 1));
        Due.is("kind 2 is whole", 5, cafe.parts(0, 2));
        Due.is("kind 3 is not", 4, cafe.parts(0, 3));
        Due.is("nothing else", 0, cafe.fill(0, 1));
    }

    static void promise8Whole0() {
        GameCafe cafe = pair(0, 5);
        cafe.setParts(0, 1, 0, 0);
        Due.is("it lacks nothing", 0, cafe.fill(0, 1));
        Due.is("parts(1, 1)", 5, cafe.parts(1, 1));
    }

    static void promise8Whole20() {
        GameCafe cafe = pair(0, 25);
        cafe.setParts(0, 1, 20, 20);
        Due.is("twenty come over", 20, cafe.fill(0, 1));
        Due.is("parts(0, 1)", 20, cafe.parts(0, 1));
        Due.is("parts(1, 1)", 5, cafe.parts(1, 1));
    }

    static void promise8NeitherNeedsToBePlayable() {
        GameCafe cafe = pair(0, 1);
        Due.is("one comes over", 1, cafe.fill(0, 1));
        Due.is("neither can be played", false, cafe.canBePlayed(0) || cafe.canBePlayed(1));
    }

    // ---- promise 16: copies

    static void promise16From0To15() {
        GameCafe cafe = new GameCafe();
        for (int copies = 0; copies <= 14; copies++) {
            Due.is("copies()", copies, cafe.copies());
            cafe.buy(copies % 5);
        }
        Due.is("copies()", 15, cafe.copies());
    }

    static void promise16LentOnesAndThoseAtTablesCount() {
        Due.is("copies()", 8, Cafes.busy().copies());
    }

    // ---- promise 17: parts

    static void promise17NoSuchCopy() {
        for (int copy : new int[] {Integer.MIN_VALUE, -1, 8, 14, 15, Integer.MAX_VALUE}) {
            Refused.busy(Due.INDEX, "parts(" + copy + ", 0)", cafe -> cafe.parts(copy, 0));
        }
        Refused.in(Cafes::fifteenCopies, Due.INDEX, "parts(15, 0)", cafe -> cafe.parts(15, 0));
    }

    static void promise17NoSuchKind() {
        for (int kind : Cafes.outside(0, 3)) {
            Refused.busy(Due.INDEX, "parts(0, " + kind + ")", cafe -> cafe.parts(0, kind));
        }
    }

    static void promise17NeitherCopyNorKind() {
        Refused.busy(Due.INDEX, "parts(8, 4)", cafe -> cafe.parts(8, 4));
    }

    static void promise17Kinds0To3() {
        GameCafe cafe = new GameCafe();
        for (int kind = 0; kind <= 3; kind++) {
            cafe.setParts(0, kind, 3 + kind, 0);
        }
        cafe.buy(0);
        for (int kind = 0; kind <= 3; kind++) {
            Due.is("parts(0, " + kind + ")", 3 + kind, cafe.parts(0, kind));
        }
    }

    static void promise17Copies0And14() {
        GameCafe cafe = Cafes.fifteenCopies();
        cafe.count(14, 0, 1);
        Due.is("parts(0, 0)", 5, cafe.parts(0, 0));
        Due.is("parts(14, 0)", 6, cafe.parts(14, 0));
    }

    static void promise17FromNoneTo40() {
        GameCafe cafe = pair(0, 25);
        cafe.count(1, 1, 15);
        Due.is("none", 0, cafe.parts(0, 1));
        Due.is("forty", 40, cafe.parts(1, 1));
    }

    static void promise17WhereverTheCopyIs() {
        GameCafe cafe = Cafes.busy();
        Due.is("at a table", 6, cafe.parts(0, 1));
        Due.is("lent", 6, cafe.parts(2, 1));
    }

    // ---- promise 18: canBePlayed

    static void promise18NoSuchCopy() {
        for (int copy : new int[] {Integer.MIN_VALUE, -1, 8, 14, 15, Integer.MAX_VALUE}) {
            Refused.busy(Due.INDEX, "canBePlayed(" + copy + ")", cafe -> cafe.canBePlayed(copy));
        }
        Refused.in(Cafes::fifteenCopies, Due.INDEX, "canBePlayed(15)", cafe -> cafe.canBePlayed(15));
    }

    static void promise18Copy14() {
        Due.is("canBePlayed(14)", true, Cafes.fifteenCopies().canBePlayed(14));
    }

    static void promise18JustWhatIsNeededOfEachKind() {
        GameCafe cafe = new GameCafe();
        cafe.buy(0);
        for (int kind = 0; kind <= 3; kind++) {
            cafe.count(0, kind, -1);
        }
        Due.is("short of a part of each kind, with what is needed", true, cafe.canBePlayed(0));
    }

    static void promise18OneFewerOfOneKind() {
        for (int kind = 0; kind <= 3; kind++) {
            GameCafe cafe = new GameCafe();
            cafe.buy(0);
            cafe.count(0, kind, -2);
            Due.is("one fewer of kind " + kind, false, cafe.canBePlayed(0));
        }
    }

    static void promise18ManyOfOneKindAreNotForAnother() {
        GameCafe cafe = pair(3, 5);
        cafe.count(0, 0, 20);
        cafe.count(0, 2, 20);
        Due.is("much else", false, cafe.canBePlayed(0));
    }

    static void promise18NothingNeededAndNothingThere() {
        GameCafe cafe = new GameCafe();
        for (int kind = 0; kind <= 3; kind++) {
            cafe.setParts(0, kind, 0, 0);
        }
        cafe.buy(0);
        Due.is("canBePlayed(0)", true, cafe.canBePlayed(0));
    }

    static void promise18AtATable() {
        GameCafe cafe = Cafes.busy();
        Due.is("can", true, cafe.canBePlayed(0));
        cafe.count(0, 0, -2);
        Due.is("cannot", false, cafe.canBePlayed(0));
    }

    static void promise18Lent() {
        GameCafe cafe = Cafes.busy();
        Due.is("can", true, cafe.canBePlayed(2));
        cafe.setParts(0, 3, 20, 6);
        Due.is("cannot", false, cafe.canBePlayed(2));
    }

    // ---- promise 19: whereIs

    static void promise19NoSuchCopy() {
        for (int copy : new int[] {Integer.MIN_VALUE, -1, 8, 14, 15, Integer.MAX_VALUE}) {
            Refused.busy(Due.INDEX, "whereIs(" + copy + ")", cafe -> cafe.whereIs(copy));
        }
        Refused.in(Cafes::fifteenCopies, Due.INDEX, "whereIs(15)", cafe -> cafe.whereIs(15));
    }

    static void promise19Copy14() {
        GameCafe cafe = Cafes.fifteenCopies();
        Due.is("whereIs(14)", GameCafe.SHELF, cafe.whereIs(14));
        cafe.lend(14, 0);
        Due.is("whereIs(14), lent", GameCafe.LENT, cafe.whereIs(14));
    }

    static void promise19OnTheShelfFromTheBeginning() {
        GameCafe cafe = new GameCafe();
        cafe.buy(0);
        Due.is("whereIs(0)", GameCafe.SHELF, cafe.whereIs(0));
    }

    static void promise19AtATableUntilTheGroupGoes() {
        GameCafe cafe = Cafes.busy();
        Due.is("whereIs(0)", GameCafe.TABLE, cafe.whereIs(0));
        cafe.grow(0, 2);
        Due.is("whereIs(0) at another table", GameCafe.TABLE, cafe.whereIs(0));
        cafe.go(0);
        Due.is("whereIs(0) then", GameCafe.SHELF, cafe.whereIs(0));
        Due.is("another group's copy", GameCafe.TABLE, cafe.whereIs(4));
    }

    static void promise19LentUntilItComesBack() {
        GameCafe cafe = Cafes.busy();
        Due.is("whereIs(2)", GameCafe.LENT, cafe.whereIs(2));
        cafe.advance(1000);
        Due.is("whereIs(2) long after", GameCafe.LENT, cafe.whereIs(2));
        cafe.giveBack(3, 0, 0);
        Due.is("whereIs(2) then", GameCafe.SHELF, cafe.whereIs(2));
        Due.is("another borrower's copy", GameCafe.LENT, cafe.whereIs(5));
    }
}
