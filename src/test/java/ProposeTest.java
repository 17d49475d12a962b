/** Promise 24: propose. */
public final class ProposeTest {
    public static void main(String[] args) {
        promise24TheLowestWithoutPlays();
        promise24TheOnePlayedMost();
        promise24OnlyForSoManyPeople();
        promise24OnlyWithATable();
        promise24OnlyWithACopy();
        promise24KnowingIt();
        promise24NoneBehindSixtyGroups();
        promise24ChangesNothing();
        promise24Refusals();
        Due.end();
    }

    private static GameCafe withAllGames() {
        GameCafe cafe = new GameCafe();
        for (int game = 0; game < 5; game++) {
            cafe.buy(game);
        }
        return cafe;
    }

    private static void play(GameCafe cafe, int game, int times) {
        for (int time = 0; time < times; time++) {
            cafe.go(cafe.seat(2, game, true));
        }
    }

    private static void promise24TheLowestWithoutPlays() {
        GameCafe cafe = new GameCafe();
        cafe.buy(4);
        Due.is("the only one", 4, cafe.propose(2));
        cafe.buy(2);
        Due.is("the lower one", 2, cafe.propose(2));
        cafe.buy(0);
        Due.is("game 0", 0, cafe.propose(2));
    }

    private static void promise24TheOnePlayedMost() {
        GameCafe cafe = withAllGames();
        play(cafe, 3, 1);
        Due.is("played once", 3, cafe.propose(2));
        play(cafe, 4, 1);
        Due.is("the lower of two", 3, cafe.propose(2));
        play(cafe, 4, 1);
        Due.is("played twice", 4, cafe.propose(2));
        play(cafe, 1, 2);
        Due.is("the lower of two again", 1, cafe.propose(2));
        int group = cafe.seat(2, 0, true);
        Due.is("a play that goes on does not count", 1, cafe.propose(2));
        cafe.go(group);
    }

    private static void promise24OnlyForSoManyPeople() {
        GameCafe cafe = withAllGames();
        Due.is("nothing for one", GameCafe.NONE, cafe.propose(1));
        Due.is("nothing for five", GameCafe.NONE, cafe.propose(5));
        Due.is("something for four", 0, cafe.propose(4));
        cafe.setGame(2, 5, 6, 10);
        Due.is("five", 2, cafe.propose(5));
        Due.is("six", 2, cafe.propose(6));
        Due.is("seven", GameCafe.NONE, cafe.propose(7));
        cafe.setGame(3, 1, 1, 10);
        Due.is("one", 3, cafe.propose(1));
        play(cafe, 0, 2);
        Due.is("played more, but not for five", 2, cafe.propose(5));
    }

    private static void promise24OnlyWithATable() {
        GameCafe cafe = withAllGames();
        cafe.setGame(0, 1, 8, 10);
        Due.is("seven", 0, cafe.propose(7));
        Due.is("no seats for eight", GameCafe.NONE, cafe.propose(8));
        cafe.buy(0);
        cafe.seat(7, 0, true);
        Due.is("the table is taken", GameCafe.NONE, cafe.propose(7));
        Due.is("six have one", 0, cafe.propose(6));
        cafe.setSeats(0, 8);
        Due.is("eight seats", 0, cafe.propose(8));
    }

    private static void promise24OnlyWithACopy() {
        GameCafe cafe = withAllGames();
        cafe.count(0, 3, -2);
        Due.is("game 0 cannot be played", 1, cafe.propose(2));
        cafe.lend(1, 0);
        Due.is("game 1 is lent", 2, cafe.propose(2));
        cafe.seat(2, 2, true);
        Due.is("game 2 is at a table", 3, cafe.propose(2));
        cafe.setParts(3, 0, 6, 6);
        Due.is("game 3 lacks a part", 4, cafe.propose(2));
        cafe.giveBack(0, 0, 1);
        Due.is("game 1 is back and has what it needs", 1, cafe.propose(2));
    }

    private static void promise24KnowingIt() {
        GameCafe cafe = withAllGames();
        for (int one = 0; one < 3; one++) {
            for (int game = 0; game < 5; game++) {
                cafe.teach(one, game, false);
            }
        }
        Due.is("without a teacher", 0, cafe.propose(2));
    }

    private static void promise24NoneBehindSixtyGroups() {
        GameCafe cafe = withAllGames();
        play(cafe, 1, 59);
        Due.is("behind 59", 1, cafe.propose(2));
        play(cafe, 1, 1);
        Due.is("behind 60", GameCafe.NONE, cafe.propose(2));
        Due.refuses("behind 60, people 9", Due.ARGUMENT, () -> cafe.propose(9));
    }

    private static void promise24ChangesNothing() {
        GameCafe cafe = withAllGames();
        cafe.propose(2);
        Due.is("at(0)", GameCafe.NONE, cafe.at(0));
        Due.is("whereIs(0)", GameCafe.SHELF, cafe.whereIs(0));
        Due.is("plays(0)", 0, cafe.plays(0));
        Due.is("the first group", 0, cafe.seat(2, 0, true));
    }

    private static void promise24Refusals() {
        GameCafe cafe = withAllGames();
        Due.refuses("propose(0)", Due.ARGUMENT, () -> cafe.propose(0));
        Due.refuses("propose(-1)", Due.ARGUMENT, () -> cafe.propose(-1));
        Due.refuses("propose(9)", Due.ARGUMENT, () -> cafe.propose(9));
        cafe.setGame(0, 1, 1, 10);
        cafe.setGame(1, 8, 8, 10);
        cafe.setSeats(5, 8);
        Due.is("propose(1)", 0, cafe.propose(1));
        Due.is("propose(8)", 1, cafe.propose(8));
    }
}
