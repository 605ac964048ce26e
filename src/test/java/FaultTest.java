import java.util.Random;

/** FAULTS of many texts by chance, bent or not, against those that are found in another way. */
public final class FaultTest {
    private static final int TEXTS = 30000;

    public static void main(String[] args) {
        Random dice = new Random(41);
        int wrong = 0;
        int[] whole = new int[3];
        int[] faulty = new int[3];
        GuiltyShave x = new GuiltyShave();
        for (int i = 0; i < TEXTS; i++) {
            int sort = i % 3;
            String text = sort == 0 ? Texts.town(dice) : sort == 1 ? Texts.law(dice) : Texts.week(dice);
            if (dice.nextBoolean()) text = Texts.bent(dice, text);
            if (text.length() > 240) text = text.substring(0, 240);
            int want = sort == 0 ? Mirror.townFault(text) : sort == 1 ? Grammar.lawFault(text) : Grammar.weekFault(text);
            x.end(0);
            Texts.feed(x, text);
            int got = x.fault(sort);
            if (want == -1) whole[sort]++; else faulty[sort]++;
            if (got != want) {
                wrong++;
                System.out.println("fault(" + sort + ") of '" + text + "' answered " + got + ", due is " + want);
            }
        }
        for (int sort = 0; sort < 3; sort++) {
            if (whole[sort] < 1000 || faulty[sort] < 1000) {
                wrong++;
                System.out.println("sort " + sort + ": " + whole[sort] + " whole, " + faulty[sort] + " faulty");
            }
        }
        System.out.println(wrong == 0 ? "all faults are as due" : wrong + " faults are not as due");
        if (wrong != 0) System.exit(1);
    }
}
