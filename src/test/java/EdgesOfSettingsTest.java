/** Promises 1 to 5, edge by edge: the ends of each range from both sides, and each refusal. */
public final class EdgesOfSettingsTest {
    public static void main(String[] args) throws IllegalAccessException {
        Due.all(EdgesOfSettingsTest.class);
    }

    // ---- promise 1: the new object

    static void promise1TheMinuteIs0() {
        Due.is("minute()", 0, new GameCafe().minute());
    }

    static void promise1NoCopies() {
        GameCafe cafe = new GameCafe();
        Due.is("copies()", 0, cafe.copies());
        Due.refuses("parts(0, 0)", Due.INDEX, () -> cafe.parts(0, 0));
        Due.refuses("whereIs(0)", Due.INDEX, () -> cafe.whereIs(0));
        Due.refuses("canBePlayed(0)", Due.INDEX, () -> cafe.canBePlayed(0));
    }

    static void promise1NoGroupIsAtATable() {
        GameCafe cafe = new GameCafe();
        for (int table = 0; table <= 5; table++) {
            Due.is("at(" + table + ")", GameCafe.NONE, cafe.at(table));
        }
        Due.refuses("copyOf(0)", Due.INDEX, () -> cafe.copyOf(0));
    }

    static void promise1EachGameIsFor2To4() {
        GameCafe cafe = new GameCafe();
        for (int game = 0; game <= 4; game++) {
            for (int people = 1; people <= 8; people++) {
                Due.is(game + " is for " + people, people >= 2 && people <= 4, Cafes.isFor(cafe, game, people));
            }
        }
    }

    static void promise1EachGameTakes10MinutesToTeach() {
        for (int game = 0; game <= 4; game++) {
            GameCafe cafe = new GameCafe();
            cafe.buy(game);
            cafe.seat(2, game, false);
            Due.is("game " + game, 10, cafe.teaching(0));
        }
    }

    static void promise1EachGameHas5PartsOfEachKind() {
        for (int game = 0; game <= 4; game++) {
            GameCafe cafe = new GameCafe();
            cafe.buy(game);
            for (int kind = 0; kind <= 3; kind++) {
                Due.is("kind " + kind + " of game " + game, 5, cafe.parts(0, kind));
            }
        }
    }

    static void promise1EachGameNeeds4OfEachKind() {
        for (int game = 0; game <= 4; game++) {
            for (int kind = 0; kind <= 3; kind++) {
                GameCafe cafe = new GameCafe();
                cafe.buy(game);
                cafe.count(0, kind, -1);
                Due.is("4 of kind " + kind + " of game " + game, true, cafe.canBePlayed(0));
                cafe.count(0, kind, -1);
                Due.is("3 of kind " + kind + " of game " + game, false, cafe.canBePlayed(0));
            }
        }
    }

    static void promise1TableTHasTPlus2Seats() {
        GameCafe cafe = new GameCafe();
        for (int table = 0; table <= 5; table++) {
            Due.is("seats of " + table, table + 2, cafe.setSeats(table, 1));
        }
    }

    static void promise1TheStaffKnowAllGames() {
        GameCafe cafe = new GameCafe();
        for (int one = 0; one <= 2; one++) {
            for (int game = 0; game <= 4; game++) {
                Due.is(one + " knows " + game, true, cafe.teach(one, game, true));
            }
        }
    }

    static void promise1NobodyTeachesAndNothingWasPlayed() {
        GameCafe cafe = new GameCafe();
        for (int one = 0; one <= 2; one++) {
            Due.is("teaching(" + one + ")", 0, cafe.teaching(one));
        }
        for (int game = 0; game <= 4; game++) {
            Due.is("plays(" + game + ")", 0, cafe.plays(game));
        }
    }

    static void promise1NoBorrowerHasOne() {
        for (int b = 0; b <= 5; b++) {
            int borrower = b;
            Refused.in(GameCafe::new, Due.STATE, "giveBack", cafe -> cafe.giveBack(borrower, 0, 0));
        }
    }

    static void promise1OneObjectKnowsNothingOfAnother() {
        for (int way = 0; way < Look.WAYS; way++) {
            String alone = Look.at(new GameCafe(), way);
            GameCafe made = new GameCafe();
            Look.at(Cafes.busy(), way);
            Due.is("a new object beside a busy one", true, alone.equals(Look.at(made, way)));
        }
    }

    // ---- promise 2: setGame

    static void promise2Games0To4EachForItself() {
        for (int game = 0; game <= 4; game++) {
            GameCafe cafe = new GameCafe();
            cafe.setGame(game, 5, 5, 1);
            for (int asked = 0; asked <= 4; asked++) {
                Due.is(asked + " is for 5 when " + game + " is set", asked == game, Cafes.isFor(cafe, asked, 5));
            }
        }
    }

    static void promise2NoSuchGame() {
        for (int game : Cafes.outside(0, 4)) {
            Refused.busy(Due.INDEX, "setGame(" + game + ")", cafe -> cafe.setGame(game, 1, 1, 1));
        }
    }

    static void promise2Least1() {
        GameCafe cafe = new GameCafe();
        cafe.setGame(0, 1, 4, 10);
        Due.is("for 1", true, Cafes.isFor(cafe, 0, 1));
        Due.is("for 4", true, Cafes.isFor(cafe, 0, 4));
        Due.is("for 5", false, Cafes.isFor(cafe, 0, 5));
    }

    static void promise2LeastBelow1() {
        for (int least : new int[] {Integer.MIN_VALUE, -1, 0}) {
            Refused.busy(Due.ARGUMENT, "least " + least, cafe -> cafe.setGame(1, least, 4, 10));
        }
    }

    static void promise2Least8() {
        GameCafe cafe = new GameCafe();
        cafe.setGame(0, 8, 8, 10);
        Due.is("for 8", true, Cafes.isFor(cafe, 0, 8));
        Due.is("for 7", false, Cafes.isFor(cafe, 0, 7));
    }

    static void promise2LeastAbove8() {
        for (int least : new int[] {9, Integer.MAX_VALUE}) {
            Refused.busy(Due.ARGUMENT, "least " + least, cafe -> cafe.setGame(1, least, least, 10));
            Refused.busy(Due.ARGUMENT, "least " + least + ", most 8", cafe -> cafe.setGame(1, least, 8, 10));
        }
    }

    static void promise2MostAsLeast() {
        GameCafe cafe = new GameCafe();
        for (int both = 1; both <= 8; both++) {
            cafe.setGame(3, both, both, 10);
            for (int people = 1; people <= 8; people++) {
                Due.is("for " + people + " of " + both, people == both, Cafes.isFor(cafe, 3, people));
            }
        }
    }

    static void promise2MostBelowLeast() {
        for (int least = 1; least <= 8; least++) {
            int asked = least;
            Refused.busy(Due.ARGUMENT, "least " + least + ", most one less",
                    cafe -> cafe.setGame(1, asked, asked - 1, 10));
        }
        Refused.busy(Due.ARGUMENT, "most far below", cafe -> cafe.setGame(1, 4, Integer.MIN_VALUE, 10));
    }

    static void promise2Most8() {
        GameCafe cafe = new GameCafe();
        cafe.setGame(0, 3, 8, 10);
        Due.is("for 2", false, Cafes.isFor(cafe, 0, 2));
        Due.is("for 3", true, Cafes.isFor(cafe, 0, 3));
        Due.is("for 8", true, Cafes.isFor(cafe, 0, 8));
    }

    static void promise2MostAbove8() {
        for (int most : new int[] {9, Integer.MAX_VALUE}) {
            Refused.busy(Due.ARGUMENT, "most " + most, cafe -> cafe.setGame(1, 1, most, 10));
        }
    }

    static void promise2Minutes1And60() {
        for (int minutes : new int[] {1, 60}) {
            GameCafe cafe = new GameCafe();
            cafe.setGame(0, 2, 4, minutes);
            cafe.buy(0);
            cafe.seat(2, 0, false);
            Due.is("minutes to teach", minutes, cafe.teaching(0));
        }
    }

    static void promise2MinutesBelow1OrAbove60() {
        for (int minutes : Cafes.outside(1, 60)) {
            Refused.busy(Due.ARGUMENT, "minutes " + minutes, cafe -> cafe.setGame(1, 1, 1, minutes));
        }
    }

    static void promise2TwoArgumentsOutOfRange() {
        Refused.busy(Due.ARGUMENT, "least and most", cafe -> cafe.setGame(1, 0, 9, 10));
        Refused.busy(Due.ARGUMENT, "least and minutes", cafe -> cafe.setGame(1, 0, 4, 61));
        Refused.busy(Due.ARGUMENT, "most and minutes", cafe -> cafe.setGame(1, 2, 9, 0));
    }

    static void promise2NoSuchGameBeforeArguments() {
        Refused.busy(Due.INDEX, "game and least", cafe -> cafe.setGame(5, 0, 4, 10));
        Refused.busy(Due.INDEX, "game and most", cafe -> cafe.setGame(-1, 2, 9, 10));
        Refused.busy(Due.INDEX, "game and minutes", cafe -> cafe.setGame(5, 2, 4, 61));
        Refused.busy(Due.INDEX, "all of them", cafe -> cafe.setGame(-1, 9, 0, 0));
    }

    static void promise2GroupsThatAreThereStay() {
        GameCafe cafe = Cafes.busy();
        cafe.setGame(0, 8, 8, 60);
        Due.is("at(0)", 0, cafe.at(0));
        Due.is("copyOf(0)", 0, cafe.copyOf(0));
        Due.is("teaching(1)", 25, cafe.teaching(1));
    }

    // ---- promise 3: setParts

    static void promise3Games0To4AndKinds0To3EachForItself() {
        for (int i = 0; i < 20; i++) {
            int game = i / 4;
            int kind = i % 4;
            GameCafe cafe = new GameCafe();
            cafe.setParts(game, kind, 9, 9);
            for (int asked = 0; asked <= 4; asked++) {
                cafe.buy(asked);
                for (int k = 0; k <= 3; k++) {
                    Due.is("parts", asked == game && k == kind ? 9 : 5, cafe.parts(asked, k));
                }
            }
        }
    }

    static void promise3NoSuchGame() {
        for (int game : Cafes.outside(0, 4)) {
            Refused.busy(Due.INDEX, "setParts(" + game + ")", cafe -> cafe.setParts(game, 0, 3, 2));
        }
    }

    static void promise3NoSuchKind() {
        for (int kind : Cafes.outside(0, 3)) {
            Refused.busy(Due.INDEX, "kind " + kind, cafe -> cafe.setParts(0, kind, 3, 2));
        }
    }

    static void promise3Whole0() {
        GameCafe cafe = new GameCafe();
        cafe.setParts(0, 0, 0, 0);
        cafe.buy(0);
        Due.is("parts(0, 0)", 0, cafe.parts(0, 0));
        Due.is("none is needed", true, cafe.canBePlayed(0));
    }

    static void promise3Whole20() {
        GameCafe cafe = new GameCafe();
        cafe.setParts(0, 0, 20, 4);
        cafe.buy(0);
        Due.is("parts(0, 0)", 20, cafe.parts(0, 0));
    }

    static void promise3WholeBelow0OrAbove20() {
        for (int whole : Cafes.outside(0, 20)) {
            Refused.busy(Due.ARGUMENT, "whole " + whole, cafe -> cafe.setParts(1, 1, whole, 0));
        }
    }

    static void promise3Need0() {
        GameCafe cafe = new GameCafe();
        cafe.setParts(0, 1, 5, 0);
        cafe.buy(0);
        cafe.count(0, 1, -5);
        Due.is("none is needed, none is there", true, cafe.canBePlayed(0));
    }

    static void promise3NeedAsWhole() {
        for (int whole : new int[] {1, 5, 20}) {
            GameCafe cafe = new GameCafe();
            cafe.setParts(0, 1, whole, whole);
            cafe.buy(0);
            Due.is("whole", true, cafe.canBePlayed(0));
            cafe.count(0, 1, -1);
            Due.is("one short", false, cafe.canBePlayed(0));
        }
    }

    static void promise3NeedBelow0() {
        for (int need : new int[] {Integer.MIN_VALUE, -1}) {
            Refused.busy(Due.ARGUMENT, "need " + need, cafe -> cafe.setParts(1, 1, 5, need));
            Refused.busy(Due.ARGUMENT, "need " + need + " of 0", cafe -> cafe.setParts(1, 1, 0, need));
        }
    }

    static void promise3NeedAboveWhole() {
        for (int whole : new int[] {0, 3, 19, 20}) {
            Refused.busy(Due.ARGUMENT, "one more than " + whole, cafe -> cafe.setParts(1, 1, whole, whole + 1));
        }
        Refused.busy(Due.ARGUMENT, "need far above", cafe -> cafe.setParts(1, 1, 5, Integer.MAX_VALUE));
    }

    static void promise3WholeAndNeedOutOfRange() {
        Refused.busy(Due.ARGUMENT, "both above", cafe -> cafe.setParts(1, 1, 21, 21));
        Refused.busy(Due.ARGUMENT, "both below", cafe -> cafe.setParts(1, 1, -1, -1));
    }

    static void promise3NoSuchGameOrKindBeforeArguments() {
        Refused.busy(Due.INDEX, "game and whole", cafe -> cafe.setParts(5, 0, 21, 0));
        Refused.busy(Due.INDEX, "game and need", cafe -> cafe.setParts(-1, 0, 5, 6));
        Refused.busy(Due.INDEX, "kind and whole", cafe -> cafe.setParts(0, 4, -1, 0));
        Refused.busy(Due.INDEX, "kind and need", cafe -> cafe.setParts(0, -1, 5, -1));
        Refused.busy(Due.INDEX, "all of them", cafe -> cafe.setParts(5, 4, 21, 22));
    }

    static void promise3CopiesKeepTheirPartsWhereverTheyAre() {
        GameCafe cafe = Cafes.busy();
        for (int game = 0; game <= 2; game++) {
            cafe.setParts(game, 0, 20, 20);
        }
        for (int copy = 0; copy < 8; copy++) {
            Due.is("parts(" + copy + ", 0)", 5, cafe.parts(copy, 0));
            Due.is("canBePlayed(" + copy + ")", false, cafe.canBePlayed(copy));
        }
        Due.is("the next one", 20, cafe.parts(cafe.buy(0), 0));
    }

    static void promise3MorePartsThanAWholeOneHas() {
        GameCafe cafe = new GameCafe();
        cafe.buy(0);
        cafe.setParts(0, 0, 0, 0);
        Due.is("parts(0, 0)", 5, cafe.parts(0, 0));
        Due.is("can be played", true, cafe.canBePlayed(0));
    }

    // ---- promise 4: setSeats

    static void promise4Tables0To5EachForItself() {
        GameCafe cafe = new GameCafe();
        for (int table = 0; table <= 5; table++) {
            Due.is("seats before", table + 2, cafe.setSeats(table, 8 - table));
        }
        for (int table = 0; table <= 5; table++) {
            Due.is("seats then", 8 - table, cafe.setSeats(table, 1));
        }
    }

    static void promise4NoSuchTable() {
        for (int table : Cafes.outside(0, 5)) {
            Refused.busy(Due.INDEX, "setSeats(" + table + ")", cafe -> cafe.setSeats(table, 3));
        }
    }

    static void promise4Seats1() {
        GameCafe cafe = Cafes.withCopies(0, 2);
        cafe.setSeats(5, 1);
        cafe.seat(1, 0, true);
        Due.is("one person has enough", 0, cafe.at(5));
        cafe.go(0);
        cafe.seat(2, 0, true);
        Due.is("two have not", GameCafe.NONE, cafe.at(5));
    }

    static void promise4Seats8() {
        GameCafe cafe = Cafes.withCopies(0, 2);
        cafe.setSeats(0, 8);
        Due.is("eight people", 0, cafe.seat(8, 0, true));
        Due.is("at table 0", 0, cafe.at(0));
    }

    static void promise4SeatsBelow1OrAbove8() {
        for (int seats : Cafes.outside(1, 8)) {
            Refused.busy(Due.ARGUMENT, "seats " + seats, cafe -> cafe.setSeats(3, seats));
        }
    }

    static void promise4AGroupIsAtIt() {
        for (int seats = 1; seats <= 8; seats++) {
            int asked = seats;
            Refused.busy(Due.STATE, "seats " + seats + " at group 0", cafe -> cafe.setSeats(0, asked));
            Refused.busy(Due.STATE, "seats " + seats + " at group 1", cafe -> cafe.setSeats(1, asked));
        }
    }

    static void promise4TheGroupHasGone() {
        GameCafe cafe = Cafes.busy();
        Due.is("where group 2 was", 4, cafe.setSeats(2, 8));
        cafe.go(1);
        Due.is("where group 1 was", 3, cafe.setSeats(1, 8));
    }

    static void promise4TheGroupHasMoved() {
        GameCafe cafe = Cafes.busy();
        Due.is("group 0 moves", 2, cafe.grow(0, 2));
        Due.refuses("where it is", Due.STATE, () -> cafe.setSeats(2, 8));
        Due.is("where it was", 2, cafe.setSeats(0, 8));
    }

    static void promise4NoSuchTableBeforeSeats() {
        Refused.busy(Due.INDEX, "table 6, seats 0", cafe -> cafe.setSeats(6, 0));
        Refused.busy(Due.INDEX, "table -1, seats 9", cafe -> cafe.setSeats(-1, 9));
    }

    static void promise4SeatsBeforeAGroupAtIt() {
        Refused.busy(Due.ARGUMENT, "seats 0 at a group", cafe -> cafe.setSeats(0, 0));
        Refused.busy(Due.ARGUMENT, "seats 9 at a group", cafe -> cafe.setSeats(0, 9));
    }

    // ---- promise 5: teach

    static void promise5Staff0To2AndGames0To4EachForItself() {
        for (int i = 0; i < 15; i++) {
            GameCafe cafe = new GameCafe();
            Due.is("it was known", true, cafe.teach(i / 5, i % 5, false));
            for (int j = 0; j < 15; j++) {
                Due.is("known", j != i, cafe.teach(j / 5, j % 5, true));
            }
        }
    }

    static void promise5NoSuchOne() {
        for (int one : Cafes.outside(0, 2)) {
            Refused.busy(Due.INDEX, "teach(" + one + ")", cafe -> cafe.teach(one, 1, false));
        }
    }

    static void promise5NoSuchGame() {
        for (int game : Cafes.outside(0, 4)) {
            Refused.busy(Due.INDEX, "game " + game, cafe -> cafe.teach(1, game, false));
        }
    }

    static void promise5NeitherOneNorGame() {
        Refused.busy(Due.INDEX, "teach(3, 5)", cafe -> cafe.teach(3, 5, false));
        Refused.busy(Due.INDEX, "teach(-1, -1)", cafe -> cafe.teach(-1, -1, false));
    }

    static void promise5WhatItWasFromEachToEach() {
        GameCafe cafe = new GameCafe();
        Due.is("known, and stays so", true, cafe.teach(2, 4, true));
        Due.is("known, and forgotten", true, cafe.teach(2, 4, false));
        Due.is("forgotten, and stays so", false, cafe.teach(2, 4, false));
        Due.is("forgotten, and known again", false, cafe.teach(2, 4, true));
        Due.is("known", true, cafe.teach(2, 4, true));
    }

    static void promise5ATeachingGoesOnThoughForgotten() {
        GameCafe cafe = Cafes.busy();
        cafe.teach(1, 0, false);
        Due.is("teaching(1)", 25, cafe.teaching(1));
        cafe.advance(24);
        Due.is("teaching(1) later", 1, cafe.teaching(1));
    }
}
