/** A call that is refused: by the exception that is due, and with everything as it was before. */
final class Refused {
    private Refused() {
    }

    /** In the cafe where everything is under way. */
    static void busy(Class<? extends RuntimeException> due, String what, Look.Move call) {
        in(Cafes::busy, due, what, call);
    }

    static void in(Look.Start start, Class<? extends RuntimeException> due, String what, Look.Move call) {
        for (int way = 0; way < Look.WAYS; way++) {
            GameCafe cafe = start.make();
            Due.refuses(what, due, () -> call.on(cafe));
            same(what, Look.at(start.make(), way), Look.at(cafe, way));
        }
    }

    private static void same(String what, String before, String behind) {
        Due.is("all is as before behind " + what, true, before.equals(behind));
        if (!before.equals(behind)) {
            Due.fault("behind " + what + " it is " + firstUnlike(before, behind));
        }
    }

    private static String firstUnlike(String before, String behind) {
        String[] was = before.split("\n");
        String[] is = behind.split("\n");
        for (int i = 0; i < was.length && i < is.length; i++) {
            if (!was[i].equals(is[i])) {
                return is[i] + ", before it was " + was[i];
            }
        }
        return "of another length";
    }
}
