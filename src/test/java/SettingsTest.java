/** Promises 1 to 5: the new object, setGame, setParts, setSeats and teach. */
public final class SettingsTest {
    public static void main(String[] args) {
        promise1NothingHasHappenedYet();
        promise1EachGameIsForTwoToFour();
        promise1GamesHaveFivePartsAndNeedFour();
        promise1TablesHaveSeats();
        promise1StaffKnowAllAndTeachTenMinutes();
        promise2PlayersOfAGame();
        promise2MinutesToTeach();
        promise2EndsOfTheRanges();
        promise2Refusals();
        promise3WholeAndNeed();
        promise3CopiesKeepTheirParts();
        promise3EndsOfTheRanges();
        promise3Refusals();
        promise4SeatsBefore();
        promise4SeatsDecideTheTable();
        promise4Refusals();
        promise5Teach();
        promise5OneWhoTeachesGoesOn();
        promise5Refusals();
        Due.end();
    }

    private static void promise1NothingHasHappenedYet() {
        GameCafe cafe = new GameCafe();
        Due.is("minute()", 0, cafe.minute());
        Due.is("copies()", 0, cafe.copies());
        for (int game = 0; game < 5; game++) {
            Due.is("plays(" + game + ")", 0, cafe.plays(game));
        }
        for (int table = 0; table < 6; table++) {
            Due.is("at(" + table + ")", GameCafe.NONE, cafe.at(table));
        }
        for (int one = 0; one < 3; one++) {
            Due.is("teaching(" + one + ")", 0, cafe.teaching(one));
        }
        for (int people = 1; people <= 8; people++) {
            Due.is("propose(" + people + ") without copies", GameCafe.NONE, cafe.propose(people));
        }
        Due.refuses("copyOf(0)", Due.INDEX, () -> cafe.copyOf(0));
        Due.refuses("whereIs(0)", Due.INDEX, () -> cafe.whereIs(0));
        for (int borrower = 0; borrower < 6; borrower++) {
            int asked = borrower;
            Due.refuses("giveBack(" + asked + ")", Due.STATE, () -> cafe.giveBack(asked, 0, 0));
        }
    }

    private static void promise1EachGameIsForTwoToFour() {
        for (int game = 0; game < 5; game++) {
            GameCafe cafe = new GameCafe();
            int asked = game;
            for (int copy = 0; copy < 3; copy++) {
                cafe.buy(game);
            }
            Due.refuses("one person at game " + game, Due.ARGUMENT, () -> cafe.seat(1, asked, true));
            Due.refuses("five people at game " + game, Due.ARGUMENT, () -> cafe.seat(5, asked, true));
            for (int people = 2; people <= 4; people++) {
                Due.is(people + " people at game " + game, people - 2, cafe.seat(people, game, true));
            }
        }
    }

    private static void promise1GamesHaveFivePartsAndNeedFour() {
        for (int game = 0; game < 5; game++) {
            GameCafe cafe = new GameCafe();
            cafe.buy(game);
            for (int kind = 0; kind < 4; kind++) {
                Due.is("parts of kind " + kind, 5, cafe.parts(0, kind));
                cafe.count(0, kind, -1);
                Due.is("playable with four of " + kind, true, cafe.canBePlayed(0));
                cafe.count(0, kind, -1);
                Due.is("playable with three of " + kind, false, cafe.canBePlayed(0));
                cafe.count(0, kind, 1);
            }
        }
    }

    private static void promise1TablesHaveSeats() {
        GameCafe cafe = new GameCafe();
        for (int table = 0; table < 6; table++) {
            Due.is("seats of table " + table, table + 2, cafe.setSeats(table, table + 2));
        }
    }

    private static void promise1StaffKnowAllAndTeachTenMinutes() {
        for (int game = 0; game < 5; game++) {
            GameCafe cafe = new GameCafe();
            for (int one = 0; one < 3; one++) {
                Due.is("teach(" + one + ", " + game + ")", true, cafe.teach(one, game, true));
            }
            cafe.buy(game);
            cafe.seat(2, game, false);
            Due.is("minutes to teach game " + game, 10, cafe.teaching(0));
        }
    }

    private static void promise2PlayersOfAGame() {
        GameCafe cafe = new GameCafe();
        cafe.buy(3);
        cafe.buy(3);
        cafe.setGame(3, 5, 6, 10);
        Due.refuses("4 people", Due.ARGUMENT, () -> cafe.seat(4, 3, true));
        Due.refuses("7 people", Due.ARGUMENT, () -> cafe.seat(7, 3, true));
        Due.is("5 people", 0, cafe.seat(5, 3, true));
        Due.is("6 people", 1, cafe.seat(6, 3, true));
        cafe.buy(2);
        Due.refuses("5 people at another game", Due.ARGUMENT, () -> cafe.seat(5, 2, true));
        Due.is("2 people at another game", 2, cafe.seat(2, 2, true));
    }

    private static void promise2MinutesToTeach() {
        GameCafe cafe = new GameCafe();
        cafe.buy(0);
        cafe.buy(0);
        cafe.setGame(0, 2, 4, 25);
        cafe.seat(2, 0, false);
        cafe.setGame(0, 2, 4, 60);
        Due.is("a teaching keeps its minutes", 25, cafe.teaching(0));
        cafe.seat(2, 0, false);
        Due.is("the next one has the new ones", 60, cafe.teaching(1));
    }

    private static void promise2EndsOfTheRanges() {
        GameCafe cafe = new GameCafe();
        cafe.setSeats(5, 8);
        cafe.buy(4);
        cafe.setGame(4, 8, 8, 1);
        cafe.seat(8, 4, false);
        Due.is("the shortest lesson", 1, cafe.teaching(0));
        cafe.go(0);
        cafe.setGame(4, 1, 1, 60);
        cafe.seat(1, 4, false);
        Due.is("the longest lesson", 60, cafe.teaching(1));
        cafe.go(1);
        cafe.buy(4);
        cafe.setGame(4, 1, 8, 30);
        Due.is("for one", 2, cafe.seat(1, 4, true));
        Due.is("for eight", 3, cafe.seat(8, 4, true));
    }

    private static void promise2Refusals() {
        GameCafe cafe = new GameCafe();
        Due.refuses("game -1", Due.INDEX, () -> cafe.setGame(-1, 2, 4, 10));
        Due.refuses("game 5", Due.INDEX, () -> cafe.setGame(5, 2, 4, 10));
        Due.refuses("game 5, all wrong", Due.INDEX, () -> cafe.setGame(5, 0, 9, 0));
        Due.refuses("least 0", Due.ARGUMENT, () -> cafe.setGame(0, 0, 4, 10));
        Due.refuses("least 9", Due.ARGUMENT, () -> cafe.setGame(0, 9, 9, 10));
        Due.refuses("most below least", Due.ARGUMENT, () -> cafe.setGame(0, 3, 2, 10));
        Due.refuses("most 9", Due.ARGUMENT, () -> cafe.setGame(0, 3, 9, 10));
        Due.refuses("minutes 0", Due.ARGUMENT, () -> cafe.setGame(0, 1, 1, 0));
        Due.refuses("minutes 61", Due.ARGUMENT, () -> cafe.setGame(0, 1, 1, 61));
        cafe.buy(0);
        Due.refuses("one person still", Due.ARGUMENT, () -> cafe.seat(1, 0, false));
        cafe.seat(4, 0, false);
        Due.is("minutes still", 10, cafe.teaching(0));
    }

    private static void promise3WholeAndNeed() {
        GameCafe cafe = new GameCafe();
        cafe.setParts(1, 2, 7, 3);
        cafe.buy(1);
        cafe.buy(0);
        Due.is("kind set", 7, cafe.parts(0, 2));
        Due.is("kind not set", 5, cafe.parts(0, 1));
        Due.is("game not set", 5, cafe.parts(1, 2));
        cafe.count(0, 2, -4);
        Due.is("three are enough", true, cafe.canBePlayed(0));
        cafe.count(0, 2, -1);
        Due.is("two are not", false, cafe.canBePlayed(0));
    }

    private static void promise3CopiesKeepTheirParts() {
        GameCafe cafe = new GameCafe();
        cafe.buy(1);
        cafe.setParts(1, 0, 12, 6);
        Due.is("the copy keeps its parts", 5, cafe.parts(0, 0));
        Due.is("but more are needed", false, cafe.canBePlayed(0));
        Due.is("the next copy", 1, cafe.buy(1));
        Due.is("has more", 12, cafe.parts(1, 0));
        cafe.count(1, 0, -3);
        cafe.setParts(1, 0, 5, 5);
        Due.is("the copy keeps its parts again", 9, cafe.parts(1, 0));
        Due.is("which can be played now", true, cafe.canBePlayed(0));
    }

    private static void promise3EndsOfTheRanges() {
        GameCafe cafe = new GameCafe();
        cafe.setParts(4, 3, 20, 20);
        cafe.setParts(0, 0, 0, 0);
        cafe.buy(4);
        cafe.buy(0);
        Due.is("twenty parts", 20, cafe.parts(0, 3));
        Due.is("all there", true, cafe.canBePlayed(0));
        cafe.count(0, 3, -1);
        Due.is("one short", false, cafe.canBePlayed(0));
        Due.is("no parts", 0, cafe.parts(1, 0));
        Due.is("none needed", true, cafe.canBePlayed(1));
        cafe.setParts(0, 1, 20, 0);
        cafe.count(1, 1, -5);
        Due.is("none of many needed", true, cafe.canBePlayed(1));
    }

    private static void promise3Refusals() {
        GameCafe cafe = new GameCafe();
        Due.refuses("game -1", Due.INDEX, () -> cafe.setParts(-1, 0, 5, 4));
        Due.refuses("game 5", Due.INDEX, () -> cafe.setParts(5, 0, 5, 4));
        Due.refuses("kind -1", Due.INDEX, () -> cafe.setParts(0, -1, 5, 4));
        Due.refuses("kind 4, all wrong", Due.INDEX, () -> cafe.setParts(0, 4, 21, 22));
        Due.refuses("whole -1", Due.ARGUMENT, () -> cafe.setParts(0, 0, -1, 0));
        Due.refuses("whole -1, need -1", Due.ARGUMENT, () -> cafe.setParts(0, 0, -1, -1));
        Due.refuses("whole 21", Due.ARGUMENT, () -> cafe.setParts(0, 0, 21, 0));
        Due.refuses("need -1", Due.ARGUMENT, () -> cafe.setParts(0, 0, 9, -1));
        Due.refuses("need above whole", Due.ARGUMENT, () -> cafe.setParts(0, 0, 9, 10));
        cafe.buy(0);
        Due.is("whole still", 5, cafe.parts(0, 0));
        cafe.count(0, 0, -1);
        Due.is("need still", true, cafe.canBePlayed(0));
    }

    private static void promise4SeatsBefore() {
        GameCafe cafe = new GameCafe();
        Due.is("setSeats(3, 1)", 5, cafe.setSeats(3, 1));
        Due.is("setSeats(3, 8)", 1, cafe.setSeats(3, 8));
        Due.is("setSeats(3, 8) again", 8, cafe.setSeats(3, 8));
        Due.is("another table", 6, cafe.setSeats(4, 6));
    }

    private static void promise4SeatsDecideTheTable() {
        GameCafe cafe = new GameCafe();
        cafe.buy(0);
        cafe.setSeats(0, 7);
        cafe.setSeats(5, 2);
        cafe.seat(2, 0, true);
        Due.is("the group is at table 5", 0, cafe.at(5));
        Due.is("table 0 is free", GameCafe.NONE, cafe.at(0));
    }

    private static void promise4Refusals() {
        GameCafe cafe = new GameCafe();
        cafe.buy(0);
        cafe.seat(2, 0, true);
        Due.refuses("table -1", Due.INDEX, () -> cafe.setSeats(-1, 4));
        Due.refuses("table 6, seats 0", Due.INDEX, () -> cafe.setSeats(6, 0));
        Due.refuses("seats 0", Due.ARGUMENT, () -> cafe.setSeats(1, 0));
        Due.refuses("seats 9", Due.ARGUMENT, () -> cafe.setSeats(1, 9));
        Due.refuses("seats 9 at a group", Due.ARGUMENT, () -> cafe.setSeats(0, 9));
        Due.refuses("seats at a group", Due.STATE, () -> cafe.setSeats(0, 8));
        Due.refuses("the same seats at a group", Due.STATE, () -> cafe.setSeats(0, 2));
        Due.is("seats still", 3, cafe.setSeats(1, 3));
        cafe.go(0);
        Due.is("seats of the freed table", 2, cafe.setSeats(0, 8));
    }

    private static void promise5Teach() {
        GameCafe cafe = new GameCafe();
        cafe.buy(1);
        cafe.buy(1);
        Due.is("known before", true, cafe.teach(0, 1, false));
        Due.is("not known before", false, cafe.teach(0, 1, false));
        Due.is("another one", true, cafe.teach(1, 1, true));
        Due.is("another game", true, cafe.teach(0, 2, true));
        cafe.seat(2, 1, false);
        Due.is("0 does not teach", 0, cafe.teaching(0));
        Due.is("1 teaches", 10, cafe.teaching(1));
        Due.is("not known yet", false, cafe.teach(0, 1, true));
        Due.is("known again", true, cafe.teach(0, 1, true));
        cafe.seat(2, 1, false);
        Due.is("0 teaches", 10, cafe.teaching(0));
    }

    private static void promise5OneWhoTeachesGoesOn() {
        GameCafe cafe = new GameCafe();
        cafe.buy(1);
        cafe.seat(2, 1, false);
        Due.is("known before", true, cafe.teach(0, 1, false));
        Due.is("teaches on", 10, cafe.teaching(0));
        cafe.advance(4);
        Due.is("still", 6, cafe.teaching(0));
    }

    private static void promise5Refusals() {
        GameCafe cafe = new GameCafe();
        Due.refuses("one -1", Due.INDEX, () -> cafe.teach(-1, 0, false));
        Due.refuses("one 3", Due.INDEX, () -> cafe.teach(3, 0, false));
        Due.refuses("game -1", Due.INDEX, () -> cafe.teach(0, -1, false));
        Due.refuses("game 5", Due.INDEX, () -> cafe.teach(0, 5, false));
        Due.refuses("both", Due.INDEX, () -> cafe.teach(3, 5, false));
        for (int one = 0; one < 3; one++) {
            for (int game = 0; game < 5; game++) {
                Due.is("known still", true, cafe.teach(one, game, true));
            }
        }
    }
}
