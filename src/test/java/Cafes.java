/** Cafes for tests to begin with; each call makes the same one anew. */
final class Cafes {
    private Cafes() {
    }

    /**
     * A cafe where everything is under way, at the minute 22.
     *
     * <p>Game 0 is for 1 to 8 and taught in 30 minutes, game 1 for 3 to 5 in 7; the others are as
     * they are at first. Copies of game 0 are 0 to 3, of game 1 are 4 and 5, of game 2 are 6 and 7.
     * On the SHELF are 1, 3, 6 and 7, of which 3 cannot be played; at a TABLE 0 (group 0, table 0)
     * and 4 (group 1, table 1); LENT are 2 (borrower 3) and 5 (borrower 0). Group 2 has gone. One 0
     * does not know game 0; one 1 teaches for 25 minutes more.
     */
    static GameCafe busy() {
        GameCafe cafe = new GameCafe();
        cafe.setGame(0, 1, 8, 30);
        cafe.setGame(1, 3, 5, 7);
        cafe.setParts(0, 1, 6, 3);
        cafe.setParts(2, 3, 6, 6);
        for (int game : new int[] {0, 0, 0, 0, 1, 1, 2, 2}) {
            cafe.buy(game);
        }
        cafe.teach(0, 0, false);
        cafe.advance(17);
        cafe.seat(2, 0, false);
        cafe.advance(5);
        cafe.seat(3, 1, true);
        cafe.seat(4, 0, true);
        cafe.go(2);
        cafe.lend(2, 3);
        cafe.lend(5, 0);
        cafe.count(3, 2, -2);
        return cafe;
    }

    /** Three copies of each game, all on the SHELF. */
    static GameCafe fifteenCopies() {
        GameCafe cafe = new GameCafe();
        for (int copy = 0; copy < 15; copy++) {
            cafe.buy(copy / 3);
        }
        return cafe;
    }

    /** Copies 0, 1 and on of one game, which is for 1 to 8 people. */
    static GameCafe withCopies(int game, int copies) {
        GameCafe cafe = new GameCafe();
        cafe.setGame(game, 1, 8, 10);
        for (int copy = 0; copy < copies; copy++) {
            cafe.buy(game);
        }
        return cafe;
    }

    /** So many groups of two were seated for game 0, and have gone but for the last; copies 0 and 1 of it. */
    static GameCafe afterGroups(int groups) {
        GameCafe cafe = withCopies(0, 2);
        for (int group = 0; group < groups; group++) {
            cafe.seat(2, 0, true);
            if (group < groups - 1) {
                cafe.go(group);
            }
        }
        return cafe;
    }

    static GameCafe sixtyGroups() {
        return afterGroups(60);
    }

    /** A new object but for the minute. */
    static GameCafe atMinute(int minute) {
        GameCafe cafe = new GameCafe();
        int left = minute;
        while (left > 0) {
            int step = Math.min(1000, left);
            cafe.advance(step);
            left -= step;
        }
        return cafe;
    }

    /** Numbers on both sides of a range: right beside it, and as far as an int goes. */
    static int[] outside(int least, int most) {
        return new int[] {Integer.MIN_VALUE, least - 1, most + 1, Integer.MAX_VALUE};
    }

    /**
     * Whether a game is for so many people. In a cafe where no copy is to be had: a group that the
     * game is for is refused there by another exception than one that it is not for.
     */
    static boolean isFor(GameCafe cafe, int game, int people) {
        try {
            cafe.seat(people, game, true);
        } catch (IllegalArgumentException notForTheGame) {
            return false;
        } catch (IllegalStateException noCopy) {
            return true;
        }
        Due.fault("a group was seated without a copy");
        return false;
    }
}
