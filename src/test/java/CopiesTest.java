/** Promises 6 to 8 and 16 to 19: buy, count, fill, copies, parts, canBePlayed and whereIs. */
public final class CopiesTest {
    public static void main(String[] args) {
        promise6NumbersFromZero();
        promise6FifteenCopies();
        promise6Refusals();
        promise7LostAndFound();
        promise7EndsOfTheRanges();
        promise7AtATableButNotLent();
        promise7Refusals();
        promise8FillsEachKind();
        promise8AsFarAsTheOtherHasAny();
        promise8NothingBeyondWhole();
        promise8TheWholeOfNow();
        promise8Refusals();
        promise8RefusalsOffTheShelf();
        promise17Refusals();
        promise18WhereverItIs();
        promise18EachKindCounts();
        promise19WhereCopiesAre();
        noSuchCopy();
        Due.end();
    }

    private static void promise6NumbersFromZero() {
        GameCafe cafe = new GameCafe();
        Due.is("buy(4)", 0, cafe.buy(4));
        Due.is("buy(0)", 1, cafe.buy(0));
        Due.is("buy(4)", 2, cafe.buy(4));
        Due.is("copies()", 3, cafe.copies());
        Due.is("whereIs(2)", GameCafe.SHELF, cafe.whereIs(2));
        Due.is("the copy of game 0", 1, cafe.copyOf(cafe.seat(2, 0, true)));
        Due.is("the lower copy of game 4", 0, cafe.copyOf(cafe.seat(2, 4, true)));
    }

    private static void promise6FifteenCopies() {
        GameCafe cafe = new GameCafe();
        for (int copy = 0; copy < 15; copy++) {
            Due.is("buy", copy, cafe.buy(copy % 5));
            Due.is("copies()", copy + 1, cafe.copies());
        }
        Due.refuses("the sixteenth", Due.STATE, () -> cafe.buy(0));
        Due.refuses("the sixteenth of no game", Due.INDEX, () -> cafe.buy(5));
        Due.is("copies() then", 15, cafe.copies());
        Due.is("parts of the last", 5, cafe.parts(14, 3));
        Due.refuses("parts(15, 3)", Due.INDEX, () -> cafe.parts(15, 3));
    }

    private static void promise6Refusals() {
        GameCafe cafe = new GameCafe();
        Due.refuses("buy(-1)", Due.INDEX, () -> cafe.buy(-1));
        Due.refuses("buy(5)", Due.INDEX, () -> cafe.buy(5));
        Due.is("copies()", 0, cafe.copies());
        Due.is("buy(4)", 0, cafe.buy(4));
    }

    private static void promise7LostAndFound() {
        GameCafe cafe = new GameCafe();
        cafe.buy(0);
        cafe.buy(0);
        Due.is("two lost", 3, cafe.count(0, 1, -2));
        Due.is("three found", 6, cafe.count(0, 1, 3));
        Due.is("none", 6, cafe.count(0, 1, 0));
        Due.is("parts(0, 1)", 6, cafe.parts(0, 1));
        Due.is("another kind", 5, cafe.parts(0, 2));
        Due.is("another copy", 5, cafe.parts(1, 1));
    }

    private static void promise7EndsOfTheRanges() {
        GameCafe cafe = new GameCafe();
        cafe.buy(0);
        Due.is("to 0", 0, cafe.count(0, 0, -5));
        Due.refuses("below 0", Due.STATE, () -> cafe.count(0, 0, -1));
        Due.is("20 found", 20, cafe.count(0, 0, 20));
        Due.is("to 40", 40, cafe.count(0, 0, 20));
        Due.refuses("above 40", Due.STATE, () -> cafe.count(0, 0, 1));
        Due.is("40 still", 40, cafe.parts(0, 0));
        Due.is("20 lost", 20, cafe.count(0, 0, -20));
        Due.is("to 0 again", 0, cafe.count(0, 0, -20));
    }

    private static void promise7AtATableButNotLent() {
        GameCafe cafe = new GameCafe();
        cafe.buy(0);
        cafe.seat(2, 0, true);
        Due.is("lost at a table", 2, cafe.count(0, 3, -3));
        Due.is("the group plays on", 0, cafe.copyOf(0));
        cafe.go(0);
        cafe.lend(0, 0);
        Due.refuses("found while lent", Due.STATE, () -> cafe.count(0, 3, 1));
        Due.refuses("nothing while lent", Due.STATE, () -> cafe.count(0, 3, 0));
        Due.refuses("out of range while lent", Due.ARGUMENT, () -> cafe.count(0, 3, 21));
        cafe.giveBack(0, 0, 0);
        Due.is("found on the shelf", 3, cafe.count(0, 3, 1));
    }

    private static void promise7Refusals() {
        GameCafe cafe = new GameCafe();
        cafe.buy(0);
        Due.refuses("copy -1", Due.INDEX, () -> cafe.count(-1, 0, 0));
        Due.refuses("copy 1", Due.INDEX, () -> cafe.count(1, 0, 0));
        Due.refuses("copy 1, change 21", Due.INDEX, () -> cafe.count(1, 0, 21));
        Due.refuses("kind -1", Due.INDEX, () -> cafe.count(0, -1, 0));
        Due.refuses("kind 4, change 21", Due.INDEX, () -> cafe.count(0, 4, 21));
        Due.refuses("change 21", Due.ARGUMENT, () -> cafe.count(0, 0, 21));
        Due.refuses("change -21", Due.ARGUMENT, () -> cafe.count(0, 0, -21));
        Due.refuses("change far out", Due.ARGUMENT, () -> cafe.count(0, 0, Integer.MAX_VALUE));
        Due.refuses("change -20", Due.STATE, () -> cafe.count(0, 0, -20));
        Due.is("parts still", 5, cafe.parts(0, 0));
    }

    private static void promise8FillsEachKind() {
        GameCafe cafe = new GameCafe();
        cafe.buy(0);
        cafe.buy(0);
        cafe.count(0, 0, -1);
        cafe.count(0, 2, -3);
        cafe.count(0, 3, -5);
        Due.is("fill(0, 1)", 9, cafe.fill(0, 1));
        for (int kind = 0; kind < 4; kind++) {
            Due.is("whole in kind " + kind, 5, cafe.parts(0, kind));
        }
        Due.is("from kind 0", 4, cafe.parts(1, 0));
        Due.is("from kind 1", 5, cafe.parts(1, 1));
        Due.is("from kind 2", 2, cafe.parts(1, 2));
        Due.is("from kind 3", 0, cafe.parts(1, 3));
        Due.is("fill(0, 1) again", 0, cafe.fill(0, 1));
        Due.is("back again", 9, cafe.fill(1, 0));
    }

    private static void promise8AsFarAsTheOtherHasAny() {
        GameCafe cafe = new GameCafe();
        cafe.buy(3);
        cafe.buy(3);
        cafe.count(0, 1, -5);
        cafe.count(1, 1, -3);
        Due.is("two come over", 2, cafe.fill(0, 1));
        Due.is("parts(0, 1)", 2, cafe.parts(0, 1));
        Due.is("parts(1, 1)", 0, cafe.parts(1, 1));
    }

    private static void promise8NothingBeyondWhole() {
        GameCafe cafe = new GameCafe();
        cafe.buy(0);
        cafe.buy(0);
        cafe.count(0, 0, 4);
        cafe.count(0, 1, -1);
        cafe.count(1, 1, 20);
        Due.is("one comes over", 1, cafe.fill(0, 1));
        Due.is("more than whole stays", 9, cafe.parts(0, 0));
        Due.is("nothing goes back", 5, cafe.parts(1, 0));
        Due.is("whole", 5, cafe.parts(0, 1));
        Due.is("the rest stays", 24, cafe.parts(1, 1));
    }

    private static void promise8TheWholeOfNow() {
        GameCafe cafe = new GameCafe();
        cafe.buy(0);
        cafe.buy(0);
        cafe.setParts(0, 2, 8, 0);
        Due.is("three come over", 3, cafe.fill(0, 1));
        Due.is("whole as of now", 8, cafe.parts(0, 2));
        cafe.setParts(0, 2, 1, 0);
        Due.is("whole enough", 0, cafe.fill(1, 0));
        Due.is("parts stay", 2, cafe.parts(1, 2));
    }

    private static void promise8Refusals() {
        GameCafe cafe = new GameCafe();
        cafe.buy(0);
        cafe.buy(1);
        cafe.count(0, 0, -1);
        Due.refuses("copy -1", Due.INDEX, () -> cafe.fill(-1, 0));
        Due.refuses("copy 2", Due.INDEX, () -> cafe.fill(2, 0));
        Due.refuses("from -1", Due.INDEX, () -> cafe.fill(0, -1));
        Due.refuses("from 2", Due.INDEX, () -> cafe.fill(0, 2));
        Due.refuses("no copy from itself", Due.INDEX, () -> cafe.fill(2, 2));
        Due.refuses("the same", Due.ARGUMENT, () -> cafe.fill(0, 0));
        Due.refuses("unlike games", Due.ARGUMENT, () -> cafe.fill(0, 1));
        Due.is("parts still", 4, cafe.parts(0, 0));
        cafe.seat(2, 0, true);
        Due.refuses("the same at a table", Due.ARGUMENT, () -> cafe.fill(0, 0));
        Due.refuses("unlike games, at a table", Due.ARGUMENT, () -> cafe.fill(1, 0));
    }

    private static void promise8RefusalsOffTheShelf() {
        GameCafe cafe = new GameCafe();
        cafe.buy(0);
        cafe.buy(0);
        cafe.count(1, 0, -1);
        cafe.seat(2, 0, true);
        Due.refuses("from a table", Due.STATE, () -> cafe.fill(1, 0));
        Due.refuses("at a table", Due.STATE, () -> cafe.fill(0, 1));
        cafe.go(0);
        cafe.lend(1, 2);
        Due.refuses("lent", Due.STATE, () -> cafe.fill(1, 0));
        Due.refuses("from a lent one", Due.STATE, () -> cafe.fill(0, 1));
        cafe.giveBack(2, 0, 0);
        Due.is("both on the shelf", 1, cafe.fill(1, 0));
    }

    private static void promise17Refusals() {
        GameCafe cafe = new GameCafe();
        cafe.buy(0);
        Due.is("parts(0, 0)", 5, cafe.parts(0, 0));
        Due.is("parts(0, 3)", 5, cafe.parts(0, 3));
        Due.refuses("kind -1", Due.INDEX, () -> cafe.parts(0, -1));
        Due.refuses("kind 4", Due.INDEX, () -> cafe.parts(0, 4));
        Due.refuses("copy and kind", Due.INDEX, () -> cafe.parts(1, 4));
    }

    private static void promise18WhereverItIs() {
        GameCafe cafe = new GameCafe();
        cafe.buy(0);
        Due.is("on the shelf", true, cafe.canBePlayed(0));
        cafe.seat(2, 0, true);
        Due.is("at a table", true, cafe.canBePlayed(0));
        cafe.count(0, 0, -2);
        Due.is("at a table, parts lost", false, cafe.canBePlayed(0));
        cafe.go(0);
        cafe.lend(0, 5);
        Due.is("lent, parts lost", false, cafe.canBePlayed(0));
        cafe.setParts(0, 0, 3, 3);
        Due.is("lent, fewer needed", true, cafe.canBePlayed(0));
    }

    private static void promise18EachKindCounts() {
        for (int kind = 0; kind < 4; kind++) {
            GameCafe cafe = new GameCafe();
            cafe.buy(2);
            cafe.setParts(2, kind, 20, 6);
            Due.is("short of kind " + kind, false, cafe.canBePlayed(0));
            cafe.count(0, kind, 1);
            Due.is("has what it needs", true, cafe.canBePlayed(0));
            cafe.count(0, kind, 20);
            Due.is("has more", true, cafe.canBePlayed(0));
        }
    }

    private static void promise19WhereCopiesAre() {
        GameCafe cafe = new GameCafe();
        cafe.buy(0);
        cafe.buy(0);
        Due.is("bought", GameCafe.SHELF, cafe.whereIs(0));
        cafe.seat(2, 0, true);
        Due.is("played", GameCafe.TABLE, cafe.whereIs(0));
        Due.is("the other one", GameCafe.SHELF, cafe.whereIs(1));
        cafe.lend(1, 0);
        Due.is("lent", GameCafe.LENT, cafe.whereIs(1));
        cafe.go(0);
        Due.is("after the play", GameCafe.SHELF, cafe.whereIs(0));
        cafe.giveBack(0, 0, 0);
        Due.is("given back", GameCafe.SHELF, cafe.whereIs(1));
    }

    private static void noSuchCopy() {
        GameCafe cafe = new GameCafe();
        cafe.buy(0);
        for (int copy : new int[] {Integer.MIN_VALUE, -1, 1, 14, 15, Integer.MAX_VALUE}) {
            Due.refuses("parts(" + copy + ")", Due.INDEX, () -> cafe.parts(copy, 0));
            Due.refuses("canBePlayed(" + copy + ")", Due.INDEX, () -> cafe.canBePlayed(copy));
            Due.refuses("whereIs(" + copy + ")", Due.INDEX, () -> cafe.whereIs(copy));
            Due.refuses("lend(" + copy + ")", Due.INDEX, () -> cafe.lend(copy, 0));
            Due.refuses("count(" + copy + ")", Due.INDEX, () -> cafe.count(copy, 0, 0));
            Due.refuses("fill(" + copy + ")", Due.INDEX, () -> cafe.fill(copy, 0));
            Due.refuses("fill from " + copy, Due.INDEX, () -> cafe.fill(0, copy));
        }
    }
}
