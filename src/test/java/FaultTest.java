/** Promise 10: fault. */
public final class FaultTest {
    private static final String TABLE = "n,d,t,m\n1,2020-02-29,x,2147483648\n";

    public static void main(String[] args) {
        theFirstWrongToken();
        tokensThatFitNowhere();
        moreIsWanted();
        fullQuestions();
        whatCannotBeComparedOrSummed();
        tooDeep();
        whenThereIsNone();
        theFirstCharacter();
        noneAfterThoseBefore();
        otherCharacters();
        theOtherOne();
        neverBeforeTheSummedName();
        theLengthOfTheQuestion();
        noneOfAQuestion();
        anAskWithoutATable();
        Run.finish();
    }

    /** The place that is due is that of the mark ^ in the question, which is taken out. */
    private static void due(String marked) {
        due(Run.of(TABLE), marked);
    }

    private static void due(Run run, String marked) {
        int place = marked.indexOf('^');
        String question = marked.replace("^", "");
        Run.due("ask of [" + question + "]", run.ask(question), "IllegalArgumentException");
        Run.due("fault of [" + question + "]", run.x.fault(), place);
    }

    private static void theFirstWrongToken() {
        for (String marked : new String[] {
            "^row", "^n", "  ^where", "rows ^n", "rows  ^wher n", "rows ^by n", "rows ^and", "rows ^desc",
            "rows ^rows",
            "rows where ^where", "rows where ^rows=1", "rows where ^is null", "rows where ^= 1", "rows where ^) ",
            "rows where n ^1", "rows where n ^null", "rows where n ^(", "rows where n is ^not null",
            "rows where n is ^n", "rows where n = ^= 1", "rows where n=^null", "rows where n=^not n=1",
            "rows where n=^(1)", "rows where n=^order n", "rows where n=1 ^2", "rows where n=1 ^n",
            "rows where n=1^)", "rows where n=1 ^where n=1", "rows where n=1 and ^or n=1", "rows where n=1 and ^",
            "rows where (n=1 ^order n",
            "rows where not ^and", "rows where not ^null", "rows where n=1 ^by n", "rows where n=1 ^desc",
            "rows order ^order", "rows order ^q", "rows order n ^m", "rows order n ^where n=1",
            "rows order n desc ^desc",
            "rows order n desc ^n", "rows order ^'n'", "count ^n", "count^(n)", "count ^order n", "count by ^by",
            "count by n ^m", "count by n ^by m", "count by n ^order m", "count where n=1 ^by n",
            "count where n=1 ^order n",
            "sum ^n", "sum ^by n", "sum(^)", "sum(^(n))", "sum(n ^m)", "sum(n)^)", "sum(n) ^order n", "least(^q)",
            "most(^1)", "most(n) ^desc", "rows where ^nn=1", "rows where n=^nm", "^rowswhere n=1", "^Rows",
            "rows^."}) {
            due(marked);
        }
    }

    private static void tokensThatFitNowhere() {
        for (String marked : new String[] {
            "^?", "^'rows'", "^-", "rows ^'where", "rows ^;", "rows where ^N=1", "rows where n ^!= 1",
            "rows where n=^+1", "rows where n=^01", "rows where n=^-0", "rows where n=^1-", "rows where n=^--1",
            "rows where n=^2020-02-30",
            "rows where n=^9223372036854775808", "rows where n=^-9223372036854775809", "rows where n=1^.5",
            "rows where d=^2019-02-29", "rows where d=^2020-2-29", "rows where t=^'x", "rows where t=^'",
            "rows where t='x'^'", "rows where t='x'^'y'", "rows where t='x'^y", "rows where t=^\"x\"",
            "rows where n^'x'", "rows where n=1 ^-1", "rows where (n=1^=", "rows where n^)1",
            "rows where n<>^>1", "rows where n=^>1", "rows where n>=^=1", "rows where n>^<1"}) {
            due(marked);
        }
    }

    private static void moreIsWanted() {
        for (String marked : new String[] {
            "^", "   ^", "rows where^", "rows where ^", "rows where   ^", "rows where n^", "rows where n ^",
            "rows where n is^", "rows where n<^", "rows where n <= ^", "rows where not^", "rows where (^",
            "rows where (n=1^", "rows where (n=1 or^", "rows where (n=1)and ^", "rows where ((n=1)^", "rows order^",
            "rows where n=1 order ^", "count by^", "count by n where ^", "sum^", "sum ^", "sum(^", "sum(n^",
            "least( n ^"}) {
            due(marked);
        }
        due(Run.of("t\nx\n"), "sum(^");
    }

    /** Each has 96 characters: nothing may be read behind them. */
    private static void fullQuestions() {
        due("rows where t=^'" + "x".repeat(82));
        due("rows where t=^" + "x".repeat(83));
        due("rows where n=^" + "1".repeat(83));
        due("rows" + " ".repeat(86) + "where ^");
        due("rows where" + " ".repeat(84) + "n<^");
        due("rows where" + " ".repeat(84) + "n>^");
        due("rows where" + " ".repeat(84) + "n ^");
        due("rows where" + " ".repeat(85) + "^?");
    }

    private static void whatCannotBeComparedOrSummed() {
        for (String marked : new String[] {
            "rows where n=^'1'", "rows where n=^2020-02-29", "rows where m=^'1'", "rows where d=^1",
            "rows where d=^'x'",
            "rows where d=^20200229", "rows where t=^1", "rows where t=^2020-02-29", "rows where n=^d",
            "rows where n=^t",
            "rows where d<^n", "rows where d<^m", "rows where d<^t", "rows where t>=^n", "rows where t>=^d",
            "rows where m<>^t", "rows where n=m and n=^t", "sum(^d)", "sum(^t)", "sum(^d", "sum( ^t ) by q",
            "rows where n=^t and"}) {
            due(marked);
        }
        Run texts = Run.of("t\nx\n");
        due(texts, "sum(^t)");
        due(texts, "sum(^n)");
        due(texts, "sum^)");
    }

    private static void tooDeep() {
        due("rows where ((((((((^(n=1)))))))))");
        due("rows where not not not not not not not not ^not n=1");
        due("rows where not(not(not(not(^not n=1))))");
        due("rows where (((((((not ^(n=1))))))))");
        due("rows where ((((((((n=1)and n=1)or ((^(");
        due("rows where n=1 and not not not not not not not not ^not");
        due("count where ((((((((n=1 or n=1))))))))^)");
    }

    private static void theFirstCharacter() {
        Run.sentence("the place of the token with which the latest question that was none went wrong: the first"
                + " character");
        due("^wrong");
        due("     ^wrong");
        due("rows     ^wrong");
        due("rows where t = ^'a text without an end");
        due("rows where n = ^123456789012345678901234567890");
        due("rows where n ^wrong = 1");
        due("rows where n=1 ^<= 2");
        due(" ".repeat(95) + "^?");
        due("rows" + " ".repeat(91) + "^x");
    }

    private static void noneAfterThoseBefore() {
        Run.sentence("of the first token that no question (of this table) has after those before it");
        due("^? rows ? where");
        due("rows where ^q=1 and r=2");
        due("rows where n=1 and ^q=1 order r");
        due("count by ^q where r=1");
        due(Run.of("q,r\n1,2\n"), "count by q where r=1 ^order q");
        due(Run.of("q,r\n1,2\n"), "rows where q=1 and ^n=1");
        due("rows where ((((((((^((((n=1");
        due("rows where n=1 and not not not not not not not not ^not n=1");
    }

    private static void otherCharacters() {
        Run.sentence("any other character fits nowhere");
        for (char c = 32; c <= 126; c++) {
            // A mark of the place can't be put before itself.
            if (" -'()=<>^".indexOf(c) < 0 && !Character.isDigit(c) && !Character.isLowerCase(c)) {
                due("^" + c);
                due("rows^" + c);
                due("rows where n^" + c + "1");
                due("rows where n=^" + c + "1");
                due("rows where n=1^" + c);
                due("rows where n<^" + c);
                due("rows where t='x'^" + c);
                due("sum(^" + c + ")");
                due("sum(n^" + c + ")");
                due("count by ^" + c + "n");
            }
        }
    }

    private static void theOtherOne() {
        Run.sentence("or with the other one can't be compared or summed");
        due("rows where n=^'x' and q");
        due("rows where n=^d or");
        due("rows where t<^n");
        due("rows where d>=^20200229");
        due("sum(^t) where q=1");
        due("sum(^d) order");
    }

    private static void neverBeforeTheSummedName() {
        Run.sentence("(of 'sum' never before its NAME)");
        // No column of this table has numbers: still it is the name that is wrong.
        Run texts = Run.of("t,d\nx,2020-02-29\n");
        due(texts, "sum(^t)");
        due(texts, "sum ( ^d )");
        due(texts, "sum^");
        due(texts, "sum(^");
        due(texts, "sum ^t");
        due(texts, "sum(^)");
        due(texts, "sum(^(t))");
        due(texts, "sum(^q)");
    }

    private static void theLengthOfTheQuestion() {
        Run.sentence("the question's length, if more would be wanted");
        due("^");
        due(" ^");
        due(" ".repeat(96) + "^");
        due("rows where^");
        due("rows where   ^");
        due("rows where n^");
        due("rows where n=^");
        due("rows where n is^");
        due("rows where not^");
        due("rows where (^");
        due("rows where (n=1^");
        due("rows where (n=1 ^");
        due("rows where n=1 and^");
        due("rows where n=1 or ^");
        due("rows order^");
        due("count by^");
        due("count where^");
        due("sum^");
        due("least(^");
        due("most(n^");
        due("rows where" + " ".repeat(86) + "^");
    }

    private static void noneOfAQuestion() {
        Run.sentence("NONE when the latest one was a question (also one whose sum is beyond), or there was none");
        Run run = Run.of("a\n9223372036854775807\n1\n");
        Run.due("fault when there was none", run.x.fault(), AskedTable.NONE);
        for (String question : new String[] {"rows", "sum(a)", "rows where a=7", "count", "sum(a) by a"}) {
            due(run, "rows ^wrong");
            run.ask(question);
            Run.due("fault of " + question, run.x.fault(), AskedTable.NONE);
            Run.due("fault of " + question + " once more", run.x.fault(), AskedTable.NONE);
        }
        due(run, "rows ^wrong");
        due(run, "rows where ^wrong");
        run.x.cut(true, 0);
        Run.due("fault of a question that was cut since", run.x.fault(), 11);
    }

    private static void anAskWithoutATable() {
        Run.sentence("an ask() without a table leaves it");
        Run run = new Run();
        for (String question : new String[] {"", "?", "rows", "rows where"}) {
            run.ask(question);
            Run.due("fault of [" + question + "] without a table", run.x.fault(), AskedTable.NONE);
        }
    }

    private static void whenThereIsNone() {
        Run run = new Run();
        Run.due("ask without a table", run.ask("?"), "IllegalStateException");
        Run.due("fault without a table", run.x.fault(), AskedTable.NONE);
        run.load(TABLE);
        Run.due("fault before a question", run.x.fault(), AskedTable.NONE);
        due(run, "rows ^?");
        run.put(true, "rows");
        Run.due("fault before the next ask", run.x.fault(), 5);
        Run.due("ask", run.ask("rows"), "1");
        Run.due("fault of a question", run.x.fault(), AskedTable.NONE);
        due(run, "rows ^?");
        run.load("a\n9223372036854775807\n1\n");
        Run.due("fault after a load", run.x.fault(), 5);
        Run.due("ask", run.ask("sum(a)"), "UnsupportedOperationException");
        Run.due("fault of a sum beyond", run.x.fault(), AskedTable.NONE);
    }
}
