/** What README.md shows: an object, some calls, some refusals. Prints what each call answers. */
public final class Example {
    public static void main(String[] args) {
        ApplesFall x = new ApplesFall();
        show("law", x.learns(0b001, 1));                    // from FACT 0 follows FACT 1
        show("law", x.learns(0b011, 2));                    // from FACTS 0 and 1 follows FACT 2
        int h = x.house(2, 4);                              // a HEBBS (KIND 2) of NUMBER 4
        show("house", h);
        show("fact to tell", x.best(h, 3, 0));              // most apples fall by it within 3 DAYS
        show("told, knows it", x.tell(h, 0));
        show("apples that fell", x.day());                  // FACTS 1 and 2 at once, two apples for each
        show("knows", x.told(h, 2));                        // bits: FACTS 0, 1 and 2

        String text = "falls 3; ripens 2; takes known < 9;";
        for (int i = 0; i < text.length(); i++) {
            x.feed(text.charAt(i));
        }
        int rule = x.text();
        show("text", rule);
        show("rule before", x.force(rule));
        show("falls for FACT 5", x.asks(h, 5, 4));

        show("BAD", x.tell(h, 12));                         // no such FACT
        show("STATE", x.tell(h, 0));                        // it KNOWS it
        show("nothing there", x.cell(3, 0, 1));             // SHEET 3 is missing
        x.feed('?');
        show("a fault at place 0", x.text());
    }

    private static void show(String what, long answer) {
        System.out.println(what + ": " + answer);
    }
}
