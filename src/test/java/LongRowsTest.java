/** Promises 23 and 24: likeness by traces where the rows that tell two apart, or could, are very long or very many. */
public final class LongRowsTest {
    /**
     * System 0 has every row of the labels 100 and 111. System 1 chooses silently among four ways round. On each it
     * shows 100 at each step, and 111, too, but at the last one; behind 111 it is as system 0. A way round has as
     * many laps of some steps as part 1 counts; the name that part 0 keeps says where on the first lap it begins.
     * The one that keeps the late name counts one lap less when it goes round for the first time.
     */
    private static ObservantYard waysRound(int steps, int laps, int[] starts, int late) {
        int end = steps;
        int choice = steps + 1;
        int shown = steps + 2;
        int all = steps + 3;
        int count = steps + 4;
        int first = count + laps;
        int giver = first + 1;
        ObservantYard x = Yards.withAgents(giver + 1);
        for (int step = 0; step < steps; step++) {
            x.addBranch(step, 'o', 0, 0, step + 1);
            if (step < steps - 1) {
                x.addBranch(step, 'o', 1, 1, all);
            } else {
                x.addBranch(step, 'i', 3, 2, shown);
            }
        }
        x.addBranch(shown, 'o', 1, 1, all);
        x.addBranch(end, 'o', 3, 0, 0);
        x.addBranch(end, 'o', 3, 1, choice);
        x.addBranch(all, 'o', 0, 0, all);
        x.addBranch(all, 'o', 1, 1, all);
        for (int lap = 0; lap < laps - 1; lap++) {
            x.addBranch(count + lap, 'i', 3, 0, count + lap + 1);
            x.addBranch(count + lap, 'o', 3, 2, count + lap);
        }
        x.addBranch(count + laps - 1, 'i', 3, 1, count);
        x.addBranch(first, 'i', 3, 4, choice);
        for (int name = 0; name < 4; name++) {
            x.addBranch(choice, 'e', 0, name, starts[name]);
            x.addBranch(giver, 'o', 3, name, name == late ? count + 1 : count);
        }
        x.addSystem(all, 0);
        x.addSystem(first, 0);
        x.addPart(1, giver, 0);
        x.hide(1, 3, true);
        return x;
    }

    /** After how many steps all ways round come to their last ones together, -1 if they never do. */
    private static int together(int steps, int laps, int[] starts, int late) {
        int[] rounds = new int[4];
        int[] left = new int[4];
        for (int name = 0; name < 4; name++) {
            rounds[name] = steps * laps - starts[name];
            left[name] = rounds[name] - 1 - (name == late ? steps : 0);
        }
        for (int row = 0; row < 1000000; row++) {
            boolean isLast = true;
            for (int name = 0; name < 4; name++) {
                isLast &= (row - left[name]) % rounds[name] == 0;
            }
            if (isLast) {
                return row;
            }
        }
        return -1;
    }

    private static void rounds(int steps, int laps, int[] starts, int late, int row) {
        Check.is(together(steps, laps, starts, late), row);
        ObservantYard x = waysRound(steps, laps, starts, late);
        Check.is(x.isAlike(0, 1, 't'), row < 0);
        Check.is(x.isAlike(1, 1, 't'), true);
        int all = -1;
        for (int state = x.countStates(1) - 1; state >= 0; state--) {
            all = x.getAgent(1, state, 0) == steps + 3 ? state : all;
        }
        Check.is(x.areAlike(1, all, 0, 't'), row < 0);
        Check.is(x.isAlike(0, 1, 'w'), false);
        Check.is(x.isSound(), true);
    }

    private static void waysRound() {
        rounds(4, 2, new int[] {0, 1, 2, 3}, -1, 840 - 1);
        rounds(4, 2, new int[] {0, 1, 2, 3}, 1, 360 - 1);
        rounds(5, 2, new int[] {1, 2, 3, 4}, 0, -1);
        rounds(7, 3, new int[] {0, 1, 2, 4}, -1, 135660 - 1);
        rounds(6, 4, new int[] {1, 2, 3, 5}, -1, 201894 - 1);
        rounds(7, 3, new int[] {0, 1, 3, 4}, -1, 21420 - 1);
        rounds(7, 3, new int[] {0, 1, 3, 4}, 2, -1);
        rounds(5, 4, new int[] {0, 1, 2, 3}, -1, 58140 - 1);
        rounds(5, 4, new int[] {0, 1, 2, 3}, 2, -1);
    }

    /**
     * Branches such as 0o041: agent, kind, channel, value, next; agent 10 is the sign behind 9. Two systems, each the
     * agents and names of its parts, and the names that both hide.
     */
    private static ObservantYard dense(String branches, String one, String other, String hidden) {
        ObservantYard x = Yards.withAgents(11);
        for (String branch : branches.split(" ")) {
            x.addBranch(branch.charAt(0) - '0', branch.charAt(1), branch.charAt(2) - '0', branch.charAt(3) - '0',
                    branch.charAt(4) - '0');
        }
        for (String parts : new String[] {one, other}) {
            int system = x.addSystem(parts.charAt(0) - '0', parts.charAt(1) - '0');
            for (int at = 2; at < parts.length(); at += 2) {
                x.addPart(system, parts.charAt(at) - '0', parts.charAt(at + 1) - '0');
            }
            for (char name : hidden.toCharArray()) {
                x.hide(system, name - '0', true);
            }
        }
        return x;
    }

    /** Asks both ways round, and whether the object has still made no more than there is room for. */
    private static void alike(boolean due, String branches, String one, String other, String hidden) {
        ObservantYard x = dense(branches, one, other, hidden);
        Check.is(x.isAlike(0, 1, 't'), due);
        Check.is(x.isAlike(1, 0, 't'), due);
        Check.is(Room.made(x) < Room.MOST_ELEMENTS, true);
    }

    /** Found, as those below, by a search for systems whose rows come to very many unlike sets of states. */
    private static void manyRows() {
        alike(true, "0o041 0o000 0o101 0t013 0t100 0t403 1o112 1i103 1t112 1o002 1t103 1o011 2o100 2o042 2o113 2o013"
                + " 2t002 2t412 3o001 3o043 3o103 3t013 3o403 3t043", "300221", "022133", "3");
        alike(true, "0o122 0o124 0o142 0o241 0o202 0o221 1o125 1o012 1o140 1o214 1o212 1o400 2o411 2o425 2o215 2o002"
                + " 2o025 2o023 3o113 3o221 3o003 3o241 3o124 3o103 4o114 4o214 4o225 4o041 4t414 4o423 5t123 5o125"
                + " 5o045 5o210 5o223 5o025", "4211", "4011", "03");
    }

    /** Far more pairs of sets than there is room for, most of them with several ways on; and yet all rows are the same. */
    private static void moreRowsThanRoom() {
        alike(true, "0o402 0o014 0o212 1o142 1o400 1o002 2t003 2o112 2i331 3o100 3o001 3o013 3o132 4o440 4o103 4o031"
                + " 4o244 4t004 4o030", "302231", "303123", "23");
        alike(true, "0o00: 0o110 0o409 0o409 0o043 1o012 1o147 1o104 1o005 1o310 1o147 2o012 2o110 2o409 2o409 3o024"
                + " 3o010 3o111 3o106 4o108 4o00: 4o006 4o117 4o012 4o013 5o111 5o105 5o012 5o009 5o006 5o041 6o005"
                + " 6o103 6o446 6o118 6o010 7o425 7o016 7o049 7o113 7o001 7o319 8o104 8o040 8o412 8o119 8o113 9o436"
                + " 9o002 9o311 9o444 9o127 :o131 :o144 :o107 :o414 :o038", "4051", "5101", "23");
    }

    private static void manyRowsApart() {
        alike(false, "0i216 0i026 0t140 0i224 0o113 0i212 1o147 1o208 1t027 1t101 1o147 1t121 2o110 2o105 2o146 2o012"
                + " 2t202 2i220 3t047 3i210 3i004 3o010 3o206 3o116 4t007 4o124 4i006 4i215 4t110 4t114 5o202 5o114"
                + " 5i005 5o015 5o204 5o102 6o121 6o100 6i020 6o017 6o141 6i008 7t246 7i004 7i017 7t406 7i213 7i223"
                + " 8i028 8i218 8i018 8t108 8t127 8t218", "1083", "1082", "3");
        alike(false, "0o111 0o224 0t027 0o046 0o140 0o402 1o213 1t015 1o222 1t106 1o124 1o114 2o206 2o215 2o110 2o143"
                + " 2o045 2o103 3o142 3o212 3o044 3o116 3o005 3o107 4o116 4o225 4o147 4o213 4o144 4o446 5o213 5o143"
                + " 5o113 5t405 5o045 5o021 6t404 6t410 6o114 6o122 6o145 6o047 7o214 7o227 7o114 7o115 7o007 7o120",
                "2301", "0023", "0");
    }

    /** With a word, only the rows that are found to be apart even where there is little room. */
    public static void main(String[] args) {
        manyRowsApart();
        if (args.length == 0) {
            waysRound();
            manyRows();
            moreRowsThanRoom();
        }
        Check.end();
    }
}
