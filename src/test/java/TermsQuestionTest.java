/** "Terms", what they say of tokens, the grammar, names and conditions: each sentence on its own. */
public final class TermsQuestionTest {
    private static final String NO_QUESTION = "IllegalArgumentException";
    private static final String TABLE = "n,m,d,e,t,u\n"
            + "1,5000000000,2020-02-29,2020-02-29,x,xy\n"
            + "2,2,2019-01-01,2019-01-02,b,a\n"
            + "3,-1,0001-01-01,,,c\n";

    public static void main(String[] args) {
        spaces();
        longestTokens();
        rowsOfLetters();
        rowsOfDigits();
        texts();
        signs();
        otherCharacters();
        questionsOfRows();
        questionsOfAggregates();
        orAndAnd();
        parts();
        comparisonsWithNull();
        rightSides();
        whatIsCompared();
        whatIsSummed();
        eightInOneAnother();
        names();
        verbsAsNames();
        unknownComparisons();
        isNull();
        not();
        and();
        or();
        chosenRows();
        Run.finish();
    }

    private static void due(String text, String question, String want) {
        Run run = Run.of(text);
        String count = run.ask(question);
        Run.due("[" + question + "]", count.matches("\\d+") ? run.linesTold() : count, want);
    }

    private static void due(String question, String want) {
        due(TABLE, question, want);
    }

    private static void dueNone(String... questions) {
        for (String question : questions) {
            due(question, NO_QUESTION);
        }
    }

    private static void spaces() {
        Run.sentence("with spaces before, between and behind them");
        due("     rows", "0 1 2");
        due("rows     ", "0 1 2");
        due("  rows  where  not  (  n  <=  1  )  order  n  desc  ", "2 1");
        due(" sum ( n ) by n where n = 2 ", "1");
        due("rows where(n<2)or(n>2)order n", "0 2");
        due("rows where n=1or n=3order n desc", "2 0");
        due("rows where t='x'or t='b'order t", "1 0");
        due("sum(n)by n where n=2", "1");
        dueNone("", " ", " ".repeat(96));
    }

    private static void longestTokens() {
        Run.sentence("a row of TOKENS, each as long as it can be");
        dueNone("rowswhere n=1", "rows wheren=1", "rows where n=1orn=2", "rows where notn=1", "rows where n isnull",
                "rows order ndesc", "countby n", "count byn", "rows where n=1-1", "rows where n=1 2", "ro ws");
        due("rows where n<>2", "0 2");
        dueNone("rows where n< >2", "rows where n< =2", "rows where n> =2", "rows where n<=>2", "rows where n=<2",
                "rows where n><2", "rows where n==2", "rows where n>>2", "rows where n<<2", "rows where n=>2");
    }

    private static void rowsOfLetters() {
        Run.sentence("a row of letters (a word or a name)");
        dueNone("Rows", "ROWS", "rows Where n=1", "rows where N=1", "row", "rowss", "rows where n1=1",
                "rows where n_=1");
        due("a,z,az\n1,2,3\n2,1,3", "rows where a<z and az=3", "0");
    }

    private static void rowsOfDigits() {
        Run.sentence("a row of digits and - (a number if it is a whole number as above, a date if it is one, else it"
                + " fits nowhere)");
        due("rows where n>-1", "0 1 2");
        due("rows where m=-1", "2");
        due("rows where m<=-1", "2");
        due("rows where m<>-1", "0 1");
        due("rows where n<9223372036854775807", "0 1 2");
        due("rows where n>-9223372036854775808", "0 1 2");
        due("rows where n>0", "0 1 2");
        due("rows where d=2020-02-29", "0");
        due("rows where d>=0001-01-01", "0 1 2");
        due("rows where d<=9999-12-31", "0 1 2");
        dueNone("rows where n=9223372036854775808", "rows where n=-9223372036854775809", "rows where n=00",
                "rows where n=-0", "rows where n=01", "rows where n=-", "rows where n=1-", "rows where n=--1",
                "rows where n=- 1", "rows where d=2019-02-29", "rows where d=0000-01-01", "rows where d=2020-1-1",
                "rows where d=2020-02 -29", "rows where d=-2020-02-29", "rows where t=-", "rows where t=01", "-", "0");
    }

    private static void texts() {
        Run.sentence("a text: a ', any characters but ', and a ' (without that one it fits nowhere)");
        due("rows where t='x'", "0");
        due("rows where t<>''", "0 1");
        due("a\n\"\"\n1", "rows where a=''", "0");
        for (char c = 32; c <= 126; c++) {
            if (c != '\'') {
                String cell = c == '"' ? "\"\"\"\"" : "\"" + c + "\"";
                due("a\nzz\n" + cell, "rows where a='" + c + "'", "1");
            }
        }
        due("a\nzz\n'", "rows where a>'&' and a<'('", "1");
        due("a\n  or b is null", "rows where a='  or b is null'", "0");
        dueNone("rows where t='", "rows where t='x", "rows where t=x'", "rows where t='''", "rows where t='x''y'",
                "rows where t=\"x\"", "rows where t='x' '", "'rows'", "rows '");
    }

    private static void signs() {
        Run.sentence("the signs ( ) = <> < <= > >=");
        due("rows where (n=2)", "1");
        due("rows where n=2", "1");
        due("rows where n<>2", "0 2");
        due("rows where n<2", "0");
        due("rows where n<=2", "0 1");
        due("rows where n>2", "2");
        due("rows where n>=2", "1 2");
        due("rows where t='b'", "1");
        due("rows where t<>'b'", "0");
        due("rows where t<'b'", "");
        due("rows where t<='b'", "1");
        due("rows where t>'b'", "0");
        due("rows where t>='b'", "0 1");
        due("rows where d=2019-01-01", "1");
        due("rows where d<>2019-01-01", "0 2");
        due("rows where d<2019-01-01", "2");
        due("rows where d<=2019-01-01", "1 2");
        due("rows where d>2019-01-01", "0");
        due("rows where d>=2019-01-01", "0 1");
    }

    private static void otherCharacters() {
        Run.sentence("any other character fits nowhere");
        for (char c = 32; c <= 126; c++) {
            boolean known = c == ' ' || c >= 'a' && c <= 'z' || c >= '0' && c <= '9' || "-'()=<>".indexOf(c) >= 0;
            if (!known) {
                dueNone("" + c, "rows" + c, c + "rows", "rows where n" + c + "1", "rows where " + c,
                        "rows where n=" + c, "rows where n=1" + c, "sum(n" + c + ")");
            }
        }
    }

    private static void questionsOfRows() {
        Run.sentence("QUESTION: 'rows' ['where' CONDITION] ['order' NAME ['desc']]");
        due("rows", "0 1 2");
        due("rows where n>1", "1 2");
        due("rows order m", "2 1 0");
        due("rows order m desc", "0 1 2");
        due("rows where n>1 order m", "2 1");
        due("rows where n>1 order m desc", "1 2");
        dueNone("rows rows", "rows where", "rows n>1", "rows order", "rows desc", "rows order desc", "rows order n m",
                "rows order n desc desc", "rows order n desc m", "rows order n where n>1", "rows where n>1 where n>1",
                "rows order n order m", "rows where n>1 desc", "rows by n", "rows where n>1 by n", "rows(n)",
                "rows order (n)", "rows order n,m", "where n>1", "order n", "n");
    }

    private static void questionsOfAggregates() {
        Run.sentence("or AGGREGATE ['by' NAME] ['where' CONDITION].   AGGREGATE: 'count', or 'sum', 'least' or 'most'"
                + " with '(' NAME ')'");
        for (String aggregate : new String[] {"count", "sum(n)", "least(n)", "most(n)", "least(t)", "most(d)"}) {
            due(aggregate, "3");
            due(aggregate + " by n", "1 1 1");
            due(aggregate + " where n>1", "2");
            due(aggregate + " by n where n>1", "1 1");
            dueNone(aggregate + " by", aggregate + " by n by m", aggregate + " where n>1 by n", aggregate + " order n",
                    aggregate + " by n order n", aggregate + " where n>1 order n", aggregate + " desc",
                    aggregate + " where", aggregate + " by where n>1", aggregate + " n", aggregate + " by (n)",
                    aggregate + " count", aggregate + " by n desc", aggregate + "(n)");
        }
        dueNone("sum", "least", "most", "sum n", "least()", "most(n", "sum n)", "sum((n))", "most(n m)", "least(1)",
                "most('x')", "sum by n", "(count)", "count()", "count(n)", "sum(n)(n)", "least(q)", "avg(n)");
    }

    private static void orAndAnd() {
        Run.sentence("CONDITION: ALL {'or' ALL}.   ALL: PART {'and' PART}");
        due("rows where n=1", "0");
        due("rows where n=1 or n=2", "0 1");
        due("rows where n=1 or n=2 or n=3 or n=4", "0 1 2");
        due("rows where n=1 and m>0", "0");
        due("rows where n>0 and n>1 and n>2 and n<4", "2");
        due("rows where n=1 or n=2 and m<0", "0");
        due("rows where n=2 and m<0 or n=1", "0");
        due("rows where n=1 or n=2 and m=2 or n=3 and m>0", "0 1");
        due("rows where " + "n=1 or ".repeat(11) + "n=3", "0 2");
        due("rows where " + "n>1 and ".repeat(10) + "n<3", "1");
        dueNone("rows where or n=1", "rows where n=1 or", "rows where n=1 or or n=2", "rows where and n=1",
                "rows where n=1 and", "rows where n=1 and and n=2", "rows where n=1 and or n=2", "rows where n=1 n=2",
                "rows where n=1 or order n", "rows where or");
    }

    private static void parts() {
        Run.sentence("PART: 'not' PART, '(' CONDITION ')', or a COMPARISON");
        due("rows where not n=1", "1 2");
        due("rows where not not n=1", "0");
        due("rows where not n=1 and n=2", "1");
        due("rows where not n=1 or n=1", "0 1 2");
        due("rows where not (n=1 or n=2)", "2");
        due("rows where (n=1)", "0");
        due("rows where ((n=1))", "0");
        due("rows where (n=1 or n=2) and m=2", "1");
        due("rows where m=2 and (n=1 or n=2)", "1");
        due("rows where not(not(n=1))", "0");
        dueNone("rows where not", "rows where ()", "rows where (", "rows where )", "rows where (n=1", "rows where n=1)",
                "rows where (n=1))", "rows where ((n=1)", "rows where not ()", "rows where n not = 1",
                "rows where (n)=1", "rows where n=(1)", "rows where not and n=1", "rows where (n=1)(n=2)",
                "rows where (n=1) n=2");
    }

    private static void comparisonsWithNull() {
        Run.sentence("COMPARISON: NAME 'is' 'null'");
        due("rows where t is null", "2");
        due("rows where n is null", "");
        due("rows where e is null", "2");
        dueNone("rows where t is", "rows where t null", "rows where t is not null", "rows where t is 'x'",
                "rows where t = null", "rows where 'x' is null", "rows where 1 is null", "rows where is null",
                "rows where q is null", "rows where t is null null", "rows where null is null", "rows where t is t");
    }

    private static void rightSides() {
        Run.sentence("or NAME, one of = <> < <= > >=, and a NAME, number, date or text");
        due("rows where n<m", "0");
        due("rows where n=2", "1");
        due("rows where d=2019-01-01", "1");
        due("rows where t='x'", "0");
        due("rows where n=n", "0 1 2");
        dueNone("rows where n", "rows where n=", "rows where =1", "rows where 1=n", "rows where 'x'=t",
                "rows where 1=1", "rows where 2019-01-01=d", "rows where n 1", "rows where n=1=1",
                "rows where n=not", "rows where n=q",
                "rows where q=n", "rows where n=-m", "rows where t=x");
    }

    private static void whatIsCompared() {
        Run.sentence("What is compared must both be numbers (of columns of type 0 or 1), both dates, or both texts");
        // Of each column, and of literals behind them: what they can be compared with is marked by the same letter.
        String[] things = {"n", "m", "d", "e", "t", "u", "7", "5000000000", "2019-01-01", "'x'", "'7'", "'2019-01-01'"};
        String kinds = "NNDDTTNNDTTT";
        for (int left = 0; left < 6; left++) {
            for (int right = 0; right < things.length; right++) {
                for (String sign : new String[] {"=", "<>", "<", "<=", ">", ">="}) {
                    String question = "count where " + things[left] + sign + things[right];
                    boolean fits = kinds.charAt(left) == kinds.charAt(right);
                    Run.due(question, Run.of(TABLE).ask(question), fits ? "1" : NO_QUESTION);
                }
            }
        }
        due("rows where n<m or m<n", "0 2");
        due("rows where d<e", "1");
        due("rows where d=e", "0");
        due("rows where t<u", "0");
        due("rows where t>=u", "1");
    }

    private static void whatIsSummed() {
        Run.sentence("for sum the column must be of type 0 or 1");
        due("sum(n)", "3");
        due("sum(m)", "3");
        dueNone("sum(d)", "sum(t)", "sum(d) where d is null", "sum(t) by n");
        due("a\n\n\n", "sum(a)", "2");
        due("a", "sum(a)", "0");
        due("a\n\"1\"", "sum(a)", NO_QUESTION);
    }

    private static void eightInOneAnother() {
        Run.sentence("'not' and '(' lie at most 8 in one another");
        for (int deep = 1; deep <= 12; deep++) {
            due("rows where " + "(".repeat(deep) + "n=1" + ")".repeat(deep), deep <= 8 ? "0" : NO_QUESTION);
            due("rows where " + "not ".repeat(deep) + "n=1",
                    deep > 8 ? NO_QUESTION : deep % 2 == 0 ? "0" : "1 2");
            due("rows where n=3 or " + "not ".repeat(deep) + "n=1",
                    deep > 8 ? NO_QUESTION : deep % 2 == 0 ? "0 2" : "1 2");
            String mixed = "not(".repeat(deep / 2) + "(".repeat(deep % 2) + "n=1" + ")".repeat(deep - deep / 2);
            due("rows where " + mixed, deep > 8 ? NO_QUESTION : deep / 2 % 2 == 0 ? "0" : "1 2");
        }
        due("rows where ((((((((n=1))))))))and((((((((n=1))))))))", "0");
        due("rows where ((((n=1))))and((((n=1))))and((((n=1))))", "0");
        due("rows where (((((((n=1)or(n=2))or(n=3))))))", "0 1 2");
        due("rows where not not not not not not not(n=1)and not not not not not not not(n=2)", "2");
    }

    private static void names() {
        Run.sentence("NAMES must be the columns' names");
        dueNone("rows where q=1", "rows where nn=1", "rows where n=nm", "rows order q", "rows order nn", "count by q",
                "sum(q)", "least(nn)", "most(rows)", "rows where rows=1", "rows order count", "count by sum");
        due("sixlet,sixle\n1,2\n2,1", "rows where sixle=1 and sixlet=2 order sixlet", "1");
        due("ab,a\n1,2\n2,1", "rows where a=1", "1");
        due("sixlet\n1", "rows where sixlets=1", NO_QUESTION);
        due("sixlet\n1", "rows where sixle=1", NO_QUESTION);
    }

    private static void verbsAsNames() {
        Run.sentence("(a column may be called rows, count, sum, least or most)");
        for (String verb : new String[] {"rows", "count", "sum", "least", "most"}) {
            String table = verb + ",a\n1,2\n2,1\n";
            due(table, "rows where " + verb + "=2", "1");
            due(table, "rows where a<" + verb, "1");
            due(table, "rows order " + verb + " desc", "1 0");
            due(table, "sum(" + verb + ")", "2");
            due(table, "least(" + verb + ")by " + verb + " where " + verb + " is null or " + verb + ">1", "1");
            due(table, verb + " " + verb, NO_QUESTION);
        }
    }

    private static void unknownComparisons() {
        Run.sentence("a comparison is unknown, if a cell in it is missing, else true or false");
        String table = "a,b\n1,1\n1,\n,1\n,\n1,2\n";
        for (String sign : new String[] {"=", "<>", "<", "<=", ">", ">="}) {
            boolean same = sign.contains("=");
            boolean less = sign.contains("<");
            String both = (same ? "0" : "") + (same && less ? " " : "") + (less ? "4" : "");
            String none = (same ? "" : "0") + (!same && !less ? " " : "") + (less ? "" : "4");
            due(table, "rows where a" + sign + "b", both);
            due(table, "rows where not a" + sign + "b", none);
        }
        due(table, "rows where a=1", "0 1 4");
        due(table, "rows where not a=1", "");
        due(table, "rows where not a=2", "0 1 4");
        due("a\nx\n\n\"\"\n", "rows where not a='x'", "2");
        due("a\n2020-02-29\n\n", "rows where not a=2020-01-01", "0");
    }

    private static void isNull() {
        Run.sentence("is null is true if the cell is missing, else false");
        String table = "a,b\n1,\n,x\n2,\"\"\n";
        due(table, "rows where a is null", "1");
        due(table, "rows where not a is null", "0 2");
        due(table, "rows where b is null", "0");
        due(table, "rows where not b is null", "1 2");
    }

    /** Rows for each pair of true, false and unknown that p=1 and q=1 are: TT TF TU FT FF FU UT UF UU. */
    private static final String PAIRS = "p,q\n1,1\n1,0\n1,\n0,1\n0,0\n0,\n,1\n,0\n,\n";

    private static void not() {
        Run.sentence("not is true of false, false of true, and unknown of unknown");
        due(PAIRS, "rows where not p=1", "3 4 5");
        due(PAIRS, "rows where not not p=1", "0 1 2");
    }

    private static void and() {
        Run.sentence("and is false, if one part is, else unknown, if one is, else true");
        due(PAIRS, "rows where p=1 and q=1", "0");
        due(PAIRS, "rows where not(p=1 and q=1)", "1 3 4 5 7");
        due(PAIRS, "rows where not(p=1 and q=1 and p=p)", "1 3 4 5 7");
        due(PAIRS, "rows where not(p=1 and q=1) and not(q=1 and p=1)", "1 3 4 5 7");
    }

    private static void or() {
        Run.sentence("or is true, if one part is, else unknown, if one is, else false");
        due(PAIRS, "rows where p=1 or q=1", "0 1 2 3 6");
        due(PAIRS, "rows where not(p=1 or q=1)", "4");
        due(PAIRS, "rows where not(p=1 or q=1 or p<>p)", "4");
    }

    private static void chosenRows() {
        Run.sentence("The CHOSEN rows are those of which the condition is true (all, without one)");
        due(PAIRS, "rows", "0 1 2 3 4 5 6 7 8");
        due(PAIRS, "count", "9");
        due(PAIRS, "rows where p=1 or not p=1", "0 1 2 3 4 5");
        due(PAIRS, "count where p=1 or not p=1", "6");
        due(PAIRS, "rows where p=7", "");
        due("a", "rows", "");
        due("a", "rows where a is null or not a is null", "");
        due("a" + "\n1".repeat(16), "rows where not a<>1", "0 1 2 3 4 5 6 7 8 9 10 11 12 13 14 15");
        due("a\n" + "\n".repeat(16), "rows where not a<>1 or a=1", "");
        due("a\n" + "\n".repeat(16), "count where a is null", "16");
    }
}
