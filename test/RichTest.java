/** Promises 33 to 38: who is rich, and cousins. */
public final class RichTest extends Due {
  private static final long REFUSED = 4000000000000000000L;

  public static void main(String[] args) {
    richest();
    mean();
    apart();
    ring();
    above();
    trusted();
    end();
  }

  private static void richest() {
    FasterForTheRich x = of(SIX);
    due("33: RICHEST", x.richest(0), 1);
    due("33: POOREST", x.richest(1), 5);
    due("33: what above", x.richest(2), -2);
    due("33: what below", x.richest(-1), -2);
    x = of("p0010;p0020;p1010;p5000;p0000;");
    due("33: RICHEST, of several the least", x.richest(0), 1);
    due("33: POOREST, of several the least", x.richest(1), 3);
    x = of("p0010;p0011;p0009;");
    due("33: RICHEST by 1", x.richest(0), 1);
    due("33: POOREST by 1", x.richest(1), 2);
    x = of("p0010;");
    due("33: RICHEST alone", x.richest(0), 0);
    due("33: POOREST alone", x.richest(1), 0);
    x = new FasterForTheRich();
    due("33: nobody is RICHEST", x.richest(0), -9);
    due("33: nobody is POOREST", x.richest(1), -9);
  }

  private static void mean() {
    FasterForTheRich x = of(SIX);
    due("34: above", x.mean(0), 205);
    due("34: below", x.mean(1), 6);
    due("34: part above", x.mean(2), REFUSED + 2);
    due("34: part below", x.mean(-1), REFUSED + 2);
    due("34: counted", x.count(12), 2);
    x = of("p0010;p0020;");
    due("34: lowest terms", x.mean(0), 15);
    due("34: lowest terms, below", x.mean(1), 1);
    x = of("p0010;p0020;p0004;p0000;");
    due("34: lowest terms of 34 over 4", x.mean(0), 17);
    due("34: lowest terms of 34 over 4, below", x.mean(1), 2);
    x = of("p0017;");
    due("34: of one", x.mean(0), 17);
    due("34: of one, below", x.mean(1), 1);
    x = of("p0000;p0000;p0000;");
    due("34: 0", x.mean(0), 0);
    due("34: over 1", x.mean(1), 1);
    x = new FasterForTheRich();
    due("34: of none 0", x.mean(0), 0);
    due("34: over 1", x.mean(1), 1);
  }

  private static void apart() {
    due("35: APART", of(SIX).apart(), 58);
    due("35: alone", of("p0099;").apart(), 0);
    due("35: the first is the least", of("p0003;p0099;p0050;").apart(), 96);
    due("35: nobody", new FasterForTheRich().apart(), 0);
  }

  private static void ring() {
    FasterForTheRich x = of(SIX);
    int[] come = {4, 3, 3, 2, 1, 1};
    for (int i = 0; i < 6; i++) due("36: from " + i, x.ring(i), come[i]);
    x.trusts(5, 1);
    int[] round = {4, 3, 4, 3, 1, 3};
    for (int i = 0; i < 6; i++) due("36: one comes again, from " + i, x.ring(i), round[i]);
    x.trusts(5, 2);
    x.trusts(3, 4);
    x.trusts(4, 5);
    x.trusts(2, 0);
    due("36: all", x.ring(0), 6);
    x.trusts(1, 2);
    due("36: some", x.ring(0), 3);
    due("36: nobody", x.ring(6), -1);
    due("36: nobody below", x.ring(-1), -1);
    x = of("p0000;p0000;p0000;p0000;p0000;p0000;t01;t12;t23;t34;t45;t50;");
    for (int i = 0; i < 6; i++) due("36: six in a ring, from " + i, x.ring(i), 6);
  }

  private static void above() {
    FasterForTheRich x = of(SIX);
    int[] v = {0, 7, 8, 25, 26, 60, 65, 66, 999};
    int[] many = {6, 6, 5, 4, 3, 2, 1, 0, 0};
    for (int i = 0; i < v.length; i++) due("37: " + v[i] + " or more", x.above(v[i]), many[i]);
    due("37: below", x.above(-1), -4);
    due("37: above", x.above(1000), -6);
  }

  private static void trusted() {
    FasterForTheRich x = of(SIX);
    int[] by = {0, 1, 0, 2, 0, 1};
    for (int i = 0; i < 6; i++) due("38: by how many " + i, x.trusted(i), by[i]);
    due("38: nobody", x.trusted(6), -1);
    due("38: nobody below", x.trusted(-1), -1);
  }
}
