/** Promises 18 to 22: requests and knowing. */
public final class RequestsTest {
    public static void main(String[] args) {
        request();
        forget();
        grant();
        best();
        bestOfLikeOnes();
        bestByDusks();
        toKnow();
        toKnowThieves();
        toKnowTeachers();
        Check.finish("RequestsTest");
    }

    private static void refused(DimBooks x, String what, int got, int want, String before) {
        Check.due(what, got, want);
        Check.same(what, Check.sight(x), before);
    }

    private static void request() {
        DimBooks x = Check.open("line 1 0;line 2 0;reader silent 3;reader thief 3;");
        String before = Check.sight(x);
        refused(x, "P18 reader", x.request(2, 0, 1), Check.UNKNOWN, before);
        refused(x, "P18 reader -1", x.request(-1, 0, 1), Check.UNKNOWN, before);
        refused(x, "P18 line", x.request(0, 2, 1), Check.UNKNOWN, before);
        refused(x, "P18 line -1", x.request(0, -1, 100), Check.UNKNOWN, before);
        refused(x, "P18 worth 100", x.request(0, 0, 100), Check.OUTSIDE, before);
        refused(x, "P18 worth -1", x.request(0, 0, -1), Check.OUTSIDE, before);
        for (int i = 0; i < 10; i++) {
            Check.due("P18 number", x.request(i % 2, i % 2, i == 9 ? 99 : 0), i);
        }
        before = Check.sight(x);
        refused(x, "P18 the eleventh", x.request(0, 0, 1), Check.FULL, before);
        refused(x, "P18 outside ahead of full", x.request(0, 0, 100), Check.OUTSIDE, before);
        refused(x, "P18 unknown ahead of full", x.request(9, 0, 1), Check.UNKNOWN, before);
    }

    private static void forget() {
        DimBooks x = Check.open("line 1 0;reader silent 3;");
        Check.due("P19 none", x.forget(), 0);
        x.request(0, 0, 5);
        x.request(0, 0, 6);
        Check.due("P19 two", x.forget(), 2);
        Check.due("P19 none left", x.told(3), 0);
        Check.due("P19 none to grant", x.grant(1), Check.UNKNOWN);
        Check.due("P19 numbers begin anew", x.request(0, 0, 7), 0);
        Check.due("P19 the new one counts", x.grant(1), 7);
    }

    private static void grant() {
        DimBooks x = Check.open("line 1 5;line 2 9;line 3 8;reader silent 3;reader copyist 3;reader thief 4;reader aloud 5;error 0;");
        x.copy(1, 0);
        x.read(1, 3);
        x.copy(1, 0);
        x.request(0, 0, 10);
        x.request(2, 0, 20);
        x.request(0, 1, 40);
        x.request(3, 2, 7);
        x.request(0, 2, 9);
        String before = Check.sight(x);
        refused(x, "P20 set 32", x.grant(32), Check.UNKNOWN, before);
        refused(x, "P20 set 33", x.grant(33), Check.UNKNOWN, before);
        refused(x, "P20 set -1", x.grant(-1), Check.UNKNOWN, before);
        refused(x, "P20 the highest bit", x.grant(Integer.MIN_VALUE), Check.UNKNOWN, before);
        refused(x, "P20 set 0", x.grant(0), 0, before);
        // Pages of line 0: 0 of shade 7, 3 of shade 1, 4 of shade 0.
        Check.due("P20 the darkest", x.grant(1), 10);
        Check.due("P20 it was page 4", x.page(4, 2), 1);
        Check.due("P20 the least of like ones", x.grant(2), 20);
        Check.due("P20 it was page 3, and is taken", x.page(3, 2), 9);
        Check.due("P20 no page, nothing had", x.grant(4), 0);
        Check.due("P20 nobody knows it", x.line(1, 3), 0);
        Check.due("P20 in order: the last reading of a page is the first one's", x.grant(24), 7);
        Check.due("P20 aloud: all know", x.line(2, 3), 15);
        Check.due("P20 they stay", x.told(3), 5);
        Check.due("P20 readings are written down", x.told(4), 6);
        Check.due("P20 a page of another variant counts", sumOfWrong(), 3);
    }

    private static int sumOfWrong() {
        DimBooks x = Check.open("line 1 8;reader copyist 3;reader silent 3;error 100;");
        x.copy(0, 0);
        x.request(1, 0, 3);
        int had = x.grant(1);
        Check.due("P20 he knows it wrongly", x.knows(1, 0, 0), 2);
        return had;
    }

    private static void best() {
        // Line 0 has one reading left: a silent reader would keep it by heart for two days, a thief for six.
        DimBooks x = Check.open("line 50 8;line 20 0;reader silent 2;reader thief 6;");
        x.request(0, 0, 30);
        x.request(1, 0, 10);
        x.request(1, 1, 15);
        String before = Check.sight(x);
        refused(x, "P21 today", x.best(0, 0), 5, before);
        refused(x, "P21 today's sum", x.best(0, 1), 30 + 15 + 50 + 20, before);
        refused(x, "P21 none lost", x.best(0, 2), 0, before);
        refused(x, "P21 in two days", x.best(2, 0), 6, before);
        refused(x, "P21 their sum", x.best(2, 1), 10 + 15 + 50 + 20, before);
        refused(x, "P21 in five days", x.best(5, 0), 6, before);
        // In six days the thief has forgotten both, so only pages count.
        refused(x, "P21 in six days", x.best(6, 0), 0, before);
        refused(x, "P21 their sum", x.best(6, 1), 70, before);
        refused(x, "P21 none lost", x.best(6, 2), 0, before);
        refused(x, "P21 in 200", x.best(200, 1), 70, before);
        refused(x, "P21 h -1", x.best(-1, 0), Check.OUTSIDE, before);
        refused(x, "P21 h 201", x.best(201, 0), Check.OUTSIDE, before);
        refused(x, "P21 what 3", x.best(0, 3), Check.OUTSIDE, before);
        refused(x, "P21 what -1", x.best(0, -1), Check.OUTSIDE, before);
    }

    private static void bestOfLikeOnes() {
        // One reading is left; both give the same: the least set of one.
        DimBooks x = Check.open("line 5 8;line 6 0;reader silent 9;reader silent 9;");
        x.request(0, 0, 4);
        x.request(1, 0, 4);
        Check.due("P21 the least", x.best(0, 0), 1);
        x.request(0, 1, 0);
        Check.due("P21 what adds nothing is not granted", x.best(0, 0), 1);
        x.request(1, 0, 6);
        Check.due("P21 the one alone that gives most", x.best(0, 0), 8);

        // A request that finds no page is not had, so it is not in the set.
        DimBooks y = Check.open("line 5 9;line 6 8;reader thief 9;");
        y.request(0, 0, 50);
        y.request(0, 1, 2);
        y.request(0, 1, 2);
        Check.due("P21 no page", y.best(0, 0), 2);
        Check.due("P21 its sum", y.best(0, 1), 8);
        Check.due("P21 lost", y.best(0, 2), 1);

        // Fewest goes ahead of least: 3 and 1 + 2 are alike, so the later one alone is taken.
        DimBooks z = Check.open("line 9 7;reader silent 1;reader thief 1;");
        z.request(0, 0, 1);
        z.request(0, 0, 2);
        z.request(1, 0, 3);
        Check.due("P21 the fewest", z.best(0, 0), 6);
        DimBooks w = Check.open("line 0 7;reader silent 1;reader thief 1;");
        w.request(0, 0, 1);
        w.request(1, 0, 2);
        w.request(1, 0, 3);
        Check.due("P21 the order of readings", w.best(0, 0), 5);
        DimBooks u = Check.open("line 0 7;reader silent 1;");
        u.request(0, 0, 5);
        u.request(0, 0, 5);
        u.request(0, 0, 1);
        Check.due("P21 fewer, but worth less", u.best(0, 0), 3);
        DimBooks v = Check.open("line 10 8;reader silent 9;");
        v.request(0, 0, 10);
        Check.due("P21 worth against a page that is lost later", v.best(9, 0), 0);
        Check.due("P21 nothing is lost then", v.best(9, 2), 0);
        v.forget();
        v.request(0, 0, 11);
        Check.due("P21 worth more than the page", v.best(9, 0), 1);
        Check.due("P21 it is lost then", v.best(9, 2), 1);
        Check.due("P21 but not before", v.best(8, 2), 0);
    }

    private static void bestByDusks() {
        DimBooks x = Check.open("line 40 0;reader copyist 5;reader aloud 3;reader silent 99;error 100;");
        x.copy(0, 0);
        for (int i = 0; i < 7; i++) {
            x.read(0, 0);
        }
        // One true reading is left, on page 0 of shade 8; page 1 holds an error and is darker.
        for (int i = 0; i < 8; i++) {
            x.read(2, 1);
        }
        x.request(2, 0, 6);
        x.request(1, 0, 5);
        // Both: the silent one knows it truly by page 0, then all hear the error from page 1.
        Check.due("P21 not both", x.best(0, 0), 1);
        Check.due("P21 none is lost", x.best(0, 2), 0);
        Check.due("P21 its sum", x.best(0, 1), 6 + 40);
        Check.due("P21 in 98 days the silent one still knows it", x.best(98, 1), 6 + 40);
        Check.due("P21 in 99 a page is better than a heart", x.best(99, 0), 0);
        Check.due("P21 its sum", x.best(99, 1), 40);
        x.grant(3);
        Check.due("P20 both", x.line(0, 1), 0);
    }

    private static void toKnow() {
        DimBooks x = Check.open("line 1 6;line 2 9;line 3 8;reader silent 3;reader silent 4;reader silent 5;reader copyist 9;error 0;");
        String before = Check.sight(x);
        refused(x, "P22 nothing", x.toKnow(0, 0), 0, before);
        refused(x, "P22 nobody", x.toKnow(7, 0), 0, before);
        refused(x, "P22 one", x.toKnow(1, 1), 1, before);
        refused(x, "P22 three", x.toKnow(1, 7), 3, before);
        refused(x, "P22 four are too many", x.toKnow(1, 15), Check.NONE, before);
        refused(x, "P22 no page", x.toKnow(2, 1), Check.NONE, before);
        refused(x, "P22 line by line", x.toKnow(5, 2), 2, before);
        refused(x, "P22 one of them cannot", x.toKnow(5, 3), Check.NONE, before);
        refused(x, "P22 lines 8", x.toKnow(8, 1), Check.UNKNOWN, before);
        refused(x, "P22 lines -1", x.toKnow(-1, 1), Check.UNKNOWN, before);
        refused(x, "P22 readers 16", x.toKnow(1, 16), Check.UNKNOWN, before);
        refused(x, "P22 readers -1", x.toKnow(0, -1), Check.UNKNOWN, before);
        x.copy(3, 0);
        Check.due("P22 the copy allows nine more", x.toKnow(1, 7), 3);
        x.read(0, 3);
        Check.due("P22 those who know need none", x.toKnow(1, 15), 2);
        x.dusk(3);
        Check.due("P22 forgotten", x.toKnow(1, 15), 3);

        DimBooks y = Check.open("line 1 8;reader copyist 5;reader silent 3;error 100;");
        y.copy(0, 0);
        Check.due("P22 an error's page is none", y.toKnow(1, 2), Check.NONE);
        Check.due("P22 the copyist knows", y.toKnow(1, 1), 0);
        y.read(0, 1);
        Check.due("P22 to know an error is not to know", y.toKnow(1, 1), Check.NONE);

        DimBooks z = Check.open("line 1 8;line 1 9;reader aloud 5;reader silent 3;reader silent 3;");
        Check.due("P22 aloud, once for all", z.toKnow(1, 7), 1);
        Check.due("P22 by one who is not of the set", z.toKnow(1, 6), 1);
        Check.due("P22 aloud, but no page", z.toKnow(2, 6), Check.NONE);
    }

    private static void toKnowThieves() {
        DimBooks x = Check.open("line 1 0;reader thief 9;reader thief 9;reader silent 9;reader copyist 9;error 0;");
        Check.due("P22 a thief as the last", x.toKnow(1, 5), 2);
        Check.due("P22 two thieves, one page", x.toKnow(1, 3), Check.NONE);
        Check.due("P22 many, a thief last", x.toKnow(1, 13), 3);
        x.copy(3, 0);
        Check.due("P22 two thieves, two pages", x.toKnow(1, 3), 2);
        Check.due("P22 two thieves and another", x.toKnow(1, 7), 3);
        for (int i = 0; i < 7; i++) {
            x.read(3, 0);
            x.read(3, 1);
        }
        x.read(3, 1);
        // Shades 8 and 8: two readings in all.
        Check.due("P22 two readings for two thieves", x.toKnow(1, 3), 2);
        Check.due("P22 but not for three", x.toKnow(1, 7), Check.NONE);
        x.read(0, 0);
        Check.due("P22 the other thief has the other page", x.toKnow(1, 3), 1);
    }

    private static void toKnowTeachers() {
        DimBooks x = Check.open("line 1 8;reader teacher 9;reader silent 9;reader silent 9;reader thief 9;");
        Check.due("P22 one reading by a teacher more", x.toKnow(1, 6), 3);
        Check.due("P22 no more, he is of the set", x.toKnow(1, 7), 3);
        Check.due("P22 one reads himself", x.toKnow(1, 2), 1);
        Check.due("P22 the teacher alone", x.toKnow(1, 1), 1);
        Check.due("P22 all", x.toKnow(1, 15), 4);
        x.read(0, 0);
        Check.due("P22 the teacher knows", x.toKnow(1, 1), 0);
        Check.due("P22 he teaches two", x.toKnow(1, 6), 2);
        Check.due("P22 he is of the set", x.toKnow(1, 7), 2);
        Check.due("P22 a thief too", x.toKnow(1, 15), 3);
        x.dusk(9);
        Check.due("P22 no teacher knows, no page", x.toKnow(1, 2), Check.NONE);

        DimBooks y = Check.open("line 1 8;reader teacher 9;reader silent 9;reader silent 9;reader copyist 9;error 100;");
        y.copy(3, 0);
        y.read(0, 1);
        Check.due("P22 a teacher of errors is none", y.toKnow(1, 6), Check.NONE);
        y.write(3, 0);
        DimBooks z = Check.open("line 1 7;reader teacher 9;reader silent 9;reader silent 9;reader silent 9;reader copyist 9;error 100;");
        z.copy(4, 0);
        z.read(0, 1);
        Check.due("P22 a teacher of errors reads truly first", z.toKnow(1, 14), 4);
        Check.due("P22 and two teachers, one of the set", twoTeachers(), 3);
    }

    private static int twoTeachers() {
        DimBooks x = Check.open("line 1 8;reader teacher 9;reader silent 9;reader silent 9;reader teacher 9;");
        return x.toKnow(1, 14);
    }
}
