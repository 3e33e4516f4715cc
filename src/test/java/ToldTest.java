/** Promise 8. Each method's comment tells the words of the document that it tests. */
public final class ToldTest {
    public static void main(String[] args) {
        instructionsThatWereDone();
        theOneWithTheTrapToo();
        butNotOneTooMany();
        longsOnTheStack();
        noneBehindATrap();
        pairs();
        valuesThatWereTaken();
        noneTakenInWay0();
        hadATrap();
        withoutACall();
        ofTheLatestCall();
        others();
        Check.end();
    }

    /** "Of the latest call what 0: INSTRUCTIONS that were done": none, 400, and each one as often as it was done. */
    private static void instructionsThatWereDone() {
        EmitDesk none = new EmitDesk();
        none.call(0, 0);
        Check.same("none", none.told(0), 0);
        EmitDesk skips = Check.desk(15, 2, 9, 0, 18, 0, 9, 0);
        skips.call(0, 0);
        Check.same("not those gone over", skips.told(0), 2);
        EmitDesk forty = new EmitDesk();
        Check.repeat(forty, 20, 0, 1, 13, 0);
        forty.call(0, 0);
        Check.same("forty", forty.told(0), 40);
        // Eleven a round, but ten in the last one, and as many rounds as there are VALUES.
        EmitDesk rounds = Check.desk(2, 0, 13, 0, 1, 0, 13, 0, 1, 0, 13, 0, 1, 0, 13, 0, 3, 0, 16, 11, 15, 0);
        Check.valuesTo(rounds, 36);
        rounds.call(2, 0);
        Check.same("rounds", rounds.told(0), 36 * 11 - 1);
        Check.code(rounds, 0, 1, 0, 1, 0, 1, 0, 1, 0, 1);
        rounds.call(2, 0);
        Check.same("400", rounds.told(0), 400);
        Check.same("400", rounds.told(4), 0);
    }

    /** "(the one with the TRAP too". */
    private static void theOneWithTheTrapToo() {
        EmitDesk first = Check.desk(13, 0, 18, 0);
        Check.refused("the first one", Check.TRAP, () -> first.call(0, 0));
        Check.same("the first one", first.told(0), 1);
        EmitDesk third = Check.desk(0, 1, 0, 0, 9, 0, 18, 0);
        Check.refused("the third one", Check.TRAP, () -> third.call(0, 0));
        Check.same("the third one", third.told(0), 3);
    }

    /** "but not one too many)". */
    private static void butNotOneTooMany() {
        for (int way = 0; way <= 2; way++) {
            EmitDesk ring = Check.desk(0, 1, 13, 0, 15, 0);
            int tried = way;
            Check.refused("the 401st", Check.TRAP, () -> ring.call(tried, 0));
            Check.same("the 401st", ring.told(0), 400);
        }
    }

    /** "1: longs on the stack then": none, and up to twelve. */
    private static void longsOnTheStack() {
        EmitDesk desk = new EmitDesk();
        for (int count = 0; count <= 12; count++) {
            for (int way = 0; way <= 2; way++) {
                desk.call(way, 0);
                Check.same(count + " longs, way " + way, desk.told(1), count);
            }
            desk.code(0, 0);
        }
    }

    /** "(behind a TRAP 0)": however many there were. */
    private static void noneBehindATrap() {
        for (int count = 0; count <= 11; count++) {
            EmitDesk desk = new EmitDesk();
            Check.repeat(desk, count, 0, 5);
            desk.code(2, 0);
            Check.refused("2 without VALUES", Check.TRAP, () -> desk.call(0, 0));
            Check.same("behind a TRAP with " + count, desk.told(1), 0);
        }
        EmitDesk full = new EmitDesk();
        Check.repeat(full, 13, 0, 5);
        Check.refused("thirteen", Check.TRAP, () -> full.call(0, 0));
        Check.same("behind a TRAP with twelve", full.told(1), 0);
        EmitDesk many = Check.desk(0, 1, 0, 1, 15, 2);
        Check.refused("too many INSTRUCTIONS", Check.TRAP, () -> many.call(0, 0));
        Check.same("behind too many INSTRUCTIONS", many.told(1), 0);
    }

    /** "2: pairs": none, and up to four, with a TRAP too. */
    private static void pairs() {
        EmitDesk desk = new EmitDesk();
        for (int count = 0; count <= 4; count++) {
            for (int way = 0; way <= 2; way++) {
                desk.call(way, 0);
                Check.same(count + " pairs, way " + way, desk.told(2), count);
            }
            Check.code(desk, 0, 1, 0, 2, 17, 0);
        }
        Check.refused("a fifth", Check.TRAP, () -> desk.call(0, 0));
        Check.same("behind a fifth", desk.told(2), 4);
    }

    /** "3: VALUES that were taken": none, and up to forty, with a TRAP too. */
    private static void valuesThatWereTaken() {
        for (int count : new int[] {0, 1, 2, 39, 40}) {
            for (int way = 1; way <= 2; way++) {
                EmitDesk desk = Check.desk(3, 0, 16, 5, 2, 0, 13, 0, 15, 0);
                Check.valuesTo(desk, count);
                desk.call(way, 0);
                Check.same("all of " + count + ", way " + way, desk.told(3), count);
                Check.code(desk, 2, 0);
                int tried = way;
                Check.refused("one more than " + count, Check.TRAP, () -> desk.call(tried, 0));
                Check.same("one more than " + count + ", way " + way, desk.told(3), count);
            }
        }
        EmitDesk some = Check.desk(2, 0, 2, 0);
        Check.valuesTo(some, 40);
        some.call(1, 0);
        Check.same("two of forty", some.told(3), 2);
    }

    /** "(in way 0 none)". */
    private static void noneTakenInWay0() {
        EmitDesk desk = Check.desk(2, 0, 2, 0, 2, 0);
        desk.value(5);
        Check.same("way 0", desk.call(0, 0), 0);
        Check.same("way 0", desk.told(3), 0);
        Check.values(desk, 6, 7);
        desk.call(1, 0);
        Check.same("way 1", desk.told(3), 3);
        desk.call(0, 0);
        Check.same("way 0 behind way 1", desk.told(3), 0);
    }

    /** "4: 1 if it had a TRAP, else 0." */
    private static void hadATrap() {
        EmitDesk desk = Check.desk(1, 0, 16, 3, 18, 0, 13, 0);
        for (int i = 0; i < 3; i++) {
            Check.refused("with", Check.TRAP, () -> desk.call(0, 0));
            Check.same("with", desk.told(4), 1);
            desk.call(0, 1);
            Check.same("without", desk.told(4), 0);
        }
    }

    /** "All 0 without a call." Whatever else was done. */
    private static void withoutACall() {
        EmitDesk desk = new EmitDesk();
        Check.told("new", desk, 0, 0, 0, 0, 0);
        Check.code(desk, 0, 1, 2, 0, 15, 40);
        Check.values(desk, 1, 2);
        Check.told("with a PROGRAM and VALUES", desk, 0, 0, 0, 0, 0);
        Check.refused("a wrong way", Check.ARGUMENT, () -> desk.call(3, 0));
        Check.refused("behind the end", Check.ARGUMENT, () -> desk.call(0, 0));
        Check.told("with refused calls alone", desk, 0, 0, 0, 0, 0);
        desk.clear();
        desk.empty();
        Check.told("behind clear() and empty()", desk, 0, 0, 0, 0, 0);
    }

    private static void ofTheLatestCall() {
        EmitDesk desk = Check.desk(2, 0, 2, 0, 17, 0, 1, 0, 1, 0, 12, 0);
        Check.values(desk, 1, 2, 3);
        Check.same("way 2", desk.call(2, 5), 1);
        Check.told("way 2", desk, 6, 3, 1, 2, 0);
        Check.same("way 1", desk.call(1, 5), 1);
        Check.told("way 1", desk, 6, 4, 1, 2, 0);
        Check.same("way 0", desk.call(0, 5), 1);
        Check.told("way 0", desk, 6, 3, 1, 0, 0);
        Check.code(desk, 0, 0, 9, 0);
        Check.refused("a TRAP", Check.TRAP, () -> desk.call(2, 5));
        Check.told("a TRAP", desk, 8, 0, 1, 2, 1);
        Check.told("asked again", desk, 8, 0, 1, 2, 1);
        desk.clear();
        desk.call(2, 5);
        Check.told("nothing at all", desk, 0, 0, 0, 0, 0);
    }

    /** "IllegalArgumentException for others." */
    private static void others() {
        EmitDesk called = Check.desk(0, 1);
        called.call(0, 0);
        EmitDesk trapped = Check.desk(13, 0);
        Check.refused("a TRAP", Check.TRAP, () -> trapped.call(0, 0));
        for (EmitDesk desk : new EmitDesk[] {new EmitDesk(), called, trapped}) {
            for (int what : new int[] {-1, -2, 5, 6, 256, Integer.MIN_VALUE, Integer.MAX_VALUE}) {
                Check.refused("told(" + what + ")", Check.ARGUMENT, () -> desk.told(what));
            }
        }
    }
}
