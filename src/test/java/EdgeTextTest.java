/** The boundary cases that PART 1 and promises 1 to 4 name, each with its sentence; see Due for what the lines mean. */
public final class EdgeTextTest {
    private static final String[] KEY_WORDS = {
        "var", "if", "else", "while", "for", "to", "return", "throw", "try", "catch", "lock", "join", "print", "break",
        "nil", "start", "new", "len"};
    private static final String BEGIN_STATEMENTS = " if while for return throw try lock join print break ";
    private static final String BEGIN_FACTORS = " start new len ";

    public static void main(String[] arguments) {
        newObject();
        lengths();
        tokens();
        everyByte();
        keyWords();
        faultsOne();
        openOnes();
        varsAndMembers();
        parametersAndNames();
        readAndCalled();
        feedAndLoad();
        faultAsked();
        Due.end("EdgeTextTest");
    }

    private static void newObject() {
        Due.is("NONE", MeasuringHouse.NONE, -1);
        Due.play("Promise 1: no text, an empty tape, prices 1 (17: 0), arguments 0", """
            load(1) = -2
            member(0, 0) = -1
            price(*, 7) = -1 -1 -1 1 1 1 1 1 1 1 1 1 1 1 1 1 1 0 -1
            price(*, 7) = -1 -1 -1 7 7 7 7 7 7 7 7 7 7 7 7 7 7 7 -1
            argument(*, 7) = 0 0 0 0 -1
            argument(*, 7) = 7 7 7 7 -1
            load(0) = -1
            fault(*) = 1 0
            """);
    }

    private static void lengths() {
        Due.play("A TEXT is bytes (at most 2,000): one of 2,000", """
            text `a(){$498[x=1;$]   }` = 1
            fault(*) = 0 -1
            member(0, *) = 0 0 1 501 997 0 499 499
            node(0, 500, *) = 3 1992 0
            begin(0, 0, 0, 0) = 1
            run(20000) = 498
            """);
        Due.play("A TEXT is bytes (at most 2,000): faults at its last byte and at its end", """
            bad `a(){$498[x=1;$]   ^?` = 1
            bad `a(){$499[x=1;$]^` = 1
            bad `a(){$498[x=1;$]  }^}` = 1
            bad `$2000[ $]^` = 1
            """);
        Due.play("A TEXT is bytes (at most 2,000): one long expression, and one of calls", """
            text `a(){print 1$993[+1$];}` = 1
            begin(0, 0, 0, 0) = 1
            run(20000) = 1
            printed(0) = 994
            text `a(){print 7$396[+a1()$];}a1(){}` = 2
            begin(0, 0, 0, 0) = 1
            run(20000) = 1
            printed(0) = 7
            count(1, 0) = 396
            """);
        Due.play("A TEXT is bytes (at most 2,000): as many members as it can hold, all but 24 too many", """
            bad `a(){}^$399[a(){}$]` = 2
            bad `a(){}b(){}c(){}d(){}e(){}f(){}g(){}h(){}i(){}j(){}k(){}l(){}m(){}n(){}o(){}p(){}q(){}r(){}s(){}t(){}u(){}v(){}w(){}x(){}^$376[y(){}$]` = 2
            bad `var aa;var ^aa;$200[var aa;$]a(){}` = 2
            """);
    }

    private static void tokens() {
        Due.play("WORDS: a letter a-z, then letters and digits (at most 8 in all)", """
            text `abcdefgh(){abcdefg1=1;a2345678=abcdefg1;z=0;}` = 1
            member(0, 2) = 3
            bad `^abcdefghi(){}` = 1
            bad `^a23456789(){}` = 1
            bad `var ^abcdefghi;a(){}` = 1
            bad `a(^abcdefghi){}` = 1
            bad `a(){^abcdefghi=1;}` = 1
            bad `a(){x=1+^abcdefgh9;}` = 1
            bad `a(){^whilewhile(1){}}` = 1
            bad `a(){x=1;^aaaaaaaaaaaaaaaaaaaaaaaaaaaaaaaaaaaaaaaaaaaaaaaaaaaaaaaaaaaaaaaaaaaa=1;}` = 1
            text `returned(){iffy=1;to1=2;nil0=3;lenn=4;x=iffy+to1+nil0+lenn;}` = 1
            """);
        Due.play("NUMBERS: 1 to 9 digits", """
            text `a(){print 0;print 9;print 999999999;print 000000009;print 123456789;}` = 1
            begin(0, 0, 0, 0) = 1
            run(9) = 5
            printed(*) = 0 9 999999999 9 123456789
            bad `a(){x=^1000000000;}` = 1
            bad `a(){x=^0000000000;}` = 1
            bad `a(){x=1+^1234567890123456789012345678901234567890;}` = 1
            bad `a(){x[^1234567890]=1;}` = 1
            """);
        Due.play("The longest token is meant (12a is 12 and a)", """
            bad `a(){x=12^a;}` = 1
            text `a(){for i=1to 2{print i;}for j=1to-1{}}` = 1
            bad `a(){for i=1 ^to2{}}` = 1
            bad `a(){for i=1^to2 2{}}` = 1
            bad `a(){if1^{}}` = 1
            bad `a(){if(1){}elsex^{}}` = 1
            text `a(){if1(1);}if1(p){}` = 2
            bad `vara^;a(){}` = 1
            bad `a(){printx^;}` = 1
            bad `a(){x=1^abcdefghi;}` = 1
            bad `a(){x=^123456789012a;}` = 1
            """);
        Due.play("ex: an or wherever an ex may stand", """
            text `a(){if(0|1){print 1;}while(0|0){}for i=0|1 to 0|2{print i;}lock 0|1{print 3;}x=new[0|1];x[1&0|0]=(0|4)+3;print x[0|0];b(0|1,0|0);return 0|1;}b(p,q){print p;print q;}c(){x=start b(0|1,0|0)|0;join 0|x;print 0|7;throw 0|1;}` = 3
            begin(0, 0, 0, 0) = 1
            run(20000) = 17
            printed(*) = 1 1 3 4 1 0 0
            lock(1, 1) = 1
            begin(2, 0, 0, 0) = 1
            run(20000) = 7
            printed(*) = 1 0 1 0
            thread(0, 7) = 0
            """);
        Due.play("Blanks (32) and bytes 10 may stand between", """
            text `~ ~a ~( ~p~,q )~{ x ~=~1 ;x~[ 0~] = nil;}~~  ` = 1
            member(0, 0) = 3
            nodes(0) = 0 3 0 / 1 3 0 / 2 3 0 / 3 18 0 / 4 26 0
            text `a(){x=1;y=!x;z=x<y;return x;}` = 1
            bad `a(){pr ^int 1;}` = 1
            bad `a(){x=1 ^2;}` = 1
            bad `a(){x=1~^2;}` = 1
            bad `a ^b(){}` = 1
            """);
    }

    /** Each of the 256 bytes behind a number, and between two members. */
    private static void everyByte() {
        for (int b = 0; b < 256; b++) {
            boolean between = b == 32 || b == 10;
            boolean digit = b >= '0' && b <= '9';
            boolean letter = b >= 'a' && b <= 'z';
            MeasuringHouse house = new MeasuringHouse();
            long members = Due.load(house, "a(){x=1" + (char) b + ";}");
            int place = "=#<>+-*/%&|;".indexOf(b) >= 0 ? 8 : 7;
            Due.is("byte " + b + " behind a number", members, between || digit ? 1 : -1);
            Due.is("byte " + b + " behind a number, fault", house.fault(0), between || digit ? 0 : 1);
            Due.is("byte " + b + " behind a number, place", house.fault(1), between || digit ? -1 : place);
            members = Due.load(house, "a(){}" + (char) b + "b(){}");
            Due.is("byte " + b + " between members", members, between || letter ? 2 : -1);
            Due.is("byte " + b + " between members, place", house.fault(1), between || letter ? -1 : 5);
        }
    }

    private static void keyWords() {
        for (String word : KEY_WORDS) {
            int length = word.length();
            boolean statement = BEGIN_STATEMENTS.contains(" " + word + " ");
            boolean factor = BEGIN_FACTORS.contains(" " + word + " ");
            noWord("", word, "(){}", word.equals("var") ? length : 0);
            noWord("var ", word, ";a(){}", 0);
            noWord("a(", word, "){}", 0);
            noWord("a(p,", word, "){}", 0);
            noWord("a(){", word, "=1;}", statement ? length : 0);
            noWord("a(){x=1;x=start ", word, "();}", 0);
            noWord("a(){for ", word, "=1 to 2{}}", 0);
            noWord("a(){try{}catch ", word, "{}}", 0);
            if (!word.equals("nil")) {
                noWord("a(){x=", word, ";}", factor ? length : 0);
            }
        }
    }

    /** The words quoted in the grammar are no W: a FAULT 1 so many bytes behind where the word begins. */
    private static void noWord(String ahead, String word, String behind, int later) {
        MeasuringHouse house = new MeasuringHouse();
        String text = ahead + word + behind;
        Due.is(text, Due.load(house, text), -1);
        Due.is(text + ": FAULT", house.fault(0), 1);
        Due.is(text + ": place", house.fault(1), ahead.length() + later);
    }

    private static void faultsOne() {
        Due.play("FAULT 1: the first token with which no text goes on", """
            bad `^;` = 1
            bad `^(){}` = 1
            bad `^1(){}` = 1
            bad `a^{}` = 1
            bad `a()^){}` = 1
            bad `a()^;` = 1
            bad `a(p ^q){}` = 1
            bad `a(){}^{}` = 1
            bad `a(){^;}` = 1
            bad `a(){^1;}` = 1
            bad `a(){^(x)=1;}` = 1
            bad `a(){x^;}` = 1
            bad `a(){x(1)^=2;}` = 1
            bad `a(){x[1]^;}` = 1
            bad `a(){x[1]^(2);}` = 1
            bad `a(){x=1^}` = 1
            bad `a(){x=(^);}` = 1
            bad `a(){x=x[^];}` = 1
            bad `a(){x=new[^];}` = 1
            bad `a(){x=new^(1);}` = 1
            bad `a(){x=1+^+1;}` = 1
            bad `a(){x=1+^*1;}` = 1
            bad `a(){x=^=1;}` = 1
            bad `a(){x=1<2^<3;}` = 1
            bad `a(){x=1=2^#3;}` = 1
            bad `a(){x=a()^();}` = 1
            bad `a(){x=x[1]^[2];}` = 1
            bad `a(){x=1^!2;}` = 1
            bad `a(){if(1)^x=1;}` = 1
            bad `a(){if(1){}else ^if(1){}}` = 1
            bad `a(){if(1){}else{}^else{}}` = 1
            bad `a(){while ^1{}}` = 1
            bad `a(){for x^[1]=1 to 2{}}` = 1
            bad `a(){for x=1 to 2^;}` = 1
            bad `a(){for x=1 to ^{}}` = 1
            bad `a(){for x=1^,2{}}` = 1
            bad `a(){try ^x=1;}` = 1
            bad `a(){try{}^x=1;}` = 1
            bad `a(){try{}catch e^;}` = 1
            bad `a(){^catch e{}}` = 1
            bad `a(){lock 1^;}` = 1
            bad `a(){join^;}` = 1
            bad `a(){print^;}` = 1
            bad `a(){throw^;}` = 1
            bad `a(){break^{}}` = 1
            bad `a(){^var x;}` = 1
            bad `var a^,b;c(){}` = 1
            bad `var a^=1;c(){}` = 1
            bad `a(){x=start b^;}b(){}` = 1
            bad `a(){^start b();}b(){}` = 1
            """);
        Due.play("FAULT 1: or the end", """
            bad `^` = 1
            bad `  ~ ^` = 1
            bad `var^` = 1
            bad `var a^` = 1
            bad `var a;^` = 1
            bad `a^` = 1
            bad `a  ^` = 1
            bad `a(p^` = 1
            bad `a(p,^` = 1
            bad `a(){^` = 1
            bad `a(){x=^` = 1
            bad `a(){x=1^` = 1
            bad `a(){x=1;^` = 1
            bad `a(){if(1){}^` = 1
            bad `a(){try{}^` = 1
            bad `a(){for i^` = 1
            bad `a(){for i=1^` = 1
            bad `a(){for i=1 to 2^` = 1
            bad `a(){x=start^` = 1
            bad `a(){x=new^` = 1
            bad `a(){x=len^` = 1
            bad `a(){x=-^` = 1
            bad `a(){}b^` = 1
            bad `a(){}~ b()~ ^` = 1
            """);
        Due.play("FAULTS: if there is none (of 1): 2", """
            bad `var a;var a;a(a,a){break;x=y;z();}^}` = 1
            bad `a(){break;}^?` = 1
            bad `a(){x=y;^` = 1
            bad `var a;var ^a;a(a,a){break;x=y;z();}` = 2
            """);
    }

    /** What opens something, behind the ^ if it is the 13th. */
    private static void openOnes() {
        String[] openings = {
            "x=^(1);", "x=^-1;", "x=^!1;", "x=^len 1;", "x=new^[1];", "a^();", "x=a^();", "x=start a^();", "x=1;x=x^[1];",
            "x=1;x^[1]=1;", "if^(1){}", "while^(1){}", "try^{}catch e{}", "lock 1^{}", "for i=1 to 2^{}",
            "x=1;x=1+2*^(3);", "x=^(1)+(2)+(3);"};
        for (String opening : openings) {
            int at = opening.indexOf('^');
            String plain = opening.replace("^", "");
            MeasuringHouse house = new MeasuringHouse();
            Due.is("the 12th: " + plain, Due.load(house, "a(){" + "lock 1{".repeat(10) + plain + "}".repeat(11)), 1);
            Due.is("the 13th: " + plain, Due.load(house, "a(){" + "lock 1{".repeat(11) + plain + "}".repeat(12)), -1);
            Due.is("the 13th: " + plain + " FAULT", house.fault(0), 1);
            Due.is("the 13th: " + plain + " place", house.fault(1), 4 + 7 * 11 + at);
        }
        Due.play("At most 12 are open at once, also the 13th that is open", """
            text `a(){x=(-(-(-(-(-(1))))));}` = 1
            bad `a(){x=(-(-(-(-(-(^-1))))));}` = 1
            text `a(){x=a1(a1(a1(a1(a1(a1(a1(a1(a1(a1(a1(1)))))))))));}a1(p){}` = 2
            bad `a(){x=a1(a1(a1(a1(a1(a1(a1(a1(a1(a1(a1(a1^(1))))))))))));}a1(p){}` = 1
            text `a(){while(1){while(1){while(1){while(1){while(1){while(1){while(1){while(1){while(1){while(1){while(1){}}}}}}}}}}}}` = 1
            bad `a(){while(1){while(1){while(1){while(1){while(1){while(1){while(1){while(1){while(1){while(1){while(1){while^(1){}}}}}}}}}}}}}` = 1
            text `a(){try{try{try{try{try{try{try{try{try{try{try{}catch e{}}catch e{}}catch e{}}catch e{}}catch e{}}catch e{}}catch e{}}catch e{}}catch e{}}catch e{}}catch e{}}` = 1
            """);
        Due.play("open: of { ( [ up to their counterparts, of len, ! and - ahead of a factor up to that one's end", """
            text `a(){lock 1{lock 1{lock 1{lock 1{lock 1{lock 1{lock 1{lock 1{lock 1{lock 1{x=-1-1+-1*-1;y=!x&!x|!x;z=(x)+(y);if(x){}if(y){}else{}}}}}}}}}}}}` = 1
            bad `a(){lock 1{lock 1{lock 1{lock 1{lock 1{lock 1{lock 1{lock 1{lock 1{lock 1{x=- ^-1;}}}}}}}}}}}` = 1
            bad `a(){lock 1{lock 1{lock 1{lock 1{lock 1{lock 1{lock 1{lock 1{lock 1{lock 1{x=len x^[1];}}}}}}}}}}}` = 1
            bad `a(){lock 1{lock 1{lock 1{lock 1{lock 1{lock 1{lock 1{lock 1{lock 1{lock 1{x=!^(1);}}}}}}}}}}}` = 1
            bad `a(){lock 1{lock 1{lock 1{lock 1{lock 1{lock 1{lock 1{lock 1{lock 1{lock 1{if(^-1){}}}}}}}}}}}}` = 1
            text `a(){lock 1{lock 1{lock 1{lock 1{lock 1{lock 1{lock 1{lock 1{lock 1{x=len x[1];x=!(1);if(-1){}x[-1]=1;}}}}}}}}}}` = 1
            """);
        Due.play("open: counted anew for each text", """
            bad `a(){((((` = 1 4
            bad `a(){x=((((((((((((1))))))))))));}` = 1 17
            text `a(){x=(((((((((((1)))))))))));}` = 1
            """);
    }

    private static void varsAndMembers() {
        Due.play("FAULT 2: a var or member of a name that is told ahead for one of these", """
            bad `var a;var ^a;b(){}` = 2
            bad `var a;var b;var c;var ^b;var a;d(){}` = 2
            bad `var a;b(){}^a(){}` = 2
            bad `a(){}^a(){}` = 2
            bad `a(){}b(){}c(){}^b(){}a(){}` = 2
            text `var a;b(){c=1;}c(){b=1;}` = 2
            text `a(b){}b(a){}` = 2
            """);
        Due.play("FAULT 2: the 9th var, the 25th member", """
            text `var a;var b;var c;var d;var e;var f;var g;var h;z(){h=1;}` = 1
            bad `var a;var b;var c;var d;var e;var f;var g;var h;var ^i;z(){}` = 2
            bad `var a;var b;var c;var d;var e;var f;var g;var h;var ^i;var j;z(){i=j;}` = 2
            bad `var a;var b;var c;var d;var e;var f;var g;var ^a;var i;z(){}` = 2
            text `a(){}b(){}c(){}d(){}e(){}f(){}g(){}h(){}i(){}j(){}k(){}l(){}m(){}n(){}o(){}p(){}q(){}r(){}s(){}t(){}u(){}v(){}w(){}x(){a();}` = 24
            member(23, *) = 115 0 0 4 3 0 2 2
            member(24, 0) = -1
            bad `a(){}b(){}c(){}d(){}e(){}f(){}g(){}h(){}i(){}j(){}k(){}l(){}m(){}n(){}o(){}p(){}q(){}r(){}s(){}t(){}u(){}v(){}w(){}x(){}^y(){}z(){}` = 2
            bad `a(){}b(){}c(){}d(){}e(){}f(){}g(){}h(){}i(){}j(){}k(){}l(){}m(){}n(){}o(){}p(){}q(){}r(){}s(){}t(){}u(){}v(){}w(){}^a(){}y(){}z(){}` = 2
            """);
    }

    private static void parametersAndNames() {
        Due.play("FAULT 2: a parameter of a name told ahead for a parameter of that member, or of a var, the 5th one", """
            bad `a(p,^p){}` = 2
            bad `a(p,q,r,^q){}` = 2
            text `a(p,q){}b(p,q){}` = 2
            text `a(a,b){}b(b,a){}` = 2
            bad `var v;a(^v){}` = 2
            bad `var v;a(p,q,r,^v){}` = 2
            text `a(p,q,r,s){}` = 1
            bad `a(p,q,r,s,^t){}` = 2
            bad `a(p,q,r,s,^t,u,v,w){}` = 2
            bad `a(p,q,r,s){}b(p,q,r,s,^p){}` = 2
            """);
        Due.play("FAULT 2: the 17th of the NAMES (where it first stands), by =, for and catch", """
            text `a(){b=1;c=1;d=1;e=1;f=1;g=1;h=1;i=1;j=1;k=1;l=1;m=1;n=1;o=1;p=1;q=1;b=2;q=2;for b=1 to 2{}try{}catch q{}}` = 1
            member(0, 2) = 16
            bad `a(){b=1;c=1;d=1;e=1;f=1;g=1;h=1;i=1;j=1;k=1;l=1;m=1;n=1;o=1;p=1;q=1;b=2;^r=2;s=3;}` = 2
            bad `a(){b=1;c=1;d=1;e=1;f=1;g=1;h=1;i=1;j=1;k=1;l=1;m=1;n=1;o=1;p=1;q=1;for ^r=1 to 2{}r=1;}` = 2
            bad `a(){b=1;c=1;d=1;e=1;f=1;g=1;h=1;i=1;j=1;k=1;l=1;m=1;n=1;o=1;p=1;q=1;try{}catch ^r{}r=1;}` = 2
            bad `a(p,q,r,s){b=1;c=1;d=1;e=1;f=1;g=1;h=1;i=1;if(1){while(1){lock 1{for j=1 to 2{k=1;try{}catch l{m=1;}}}}}^n=1;}` = 2
            bad `a(p,q,r,s){b=1;c=1;d=1;e=1;f=1;g=1;h=1;i=1;j=1;k=1;l=1;m=1;p=1;s=1;^n=1;}` = 2
            text `var v;a(p,q,r,s){b=1;c=1;d=1;e=1;f=1;g=1;h=1;i=1;j=1;k=1;l=1;m=1;v=1;p=1;}` = 1
            text `a(){b=1;c=1;d=1;e=1;f=1;g=1;h=1;i=1;j=1;k=1;l=1;m=1;n=1;o=1;p=1;q=1;}z(){r=1;c=1;d=1;e=1;f=1;g=1;h=1;i=1;j=1;k=1;l=1;m=1;n=1;o=1;p=1;q=1;}` = 2
            """);
        Due.play("FAULT 2: for's and catch's W are no vars", """
            bad `var v;a(){for ^v=1 to 2{}}` = 2
            bad `var v;a(){for ^v=1 to 2{v=1;}}` = 2
            bad `var v;a(){try{}catch ^v{}}` = 2
            text `var v;a(){for i=v to v{v=1;}try{}catch e{v=e;}}` = 1
            """);
        Due.play("FAULT 2: a for's W is not set in that one's body (by =, for, catch: at that W)", """
            bad `a(){for i=1 to 2{^i=3;}}` = 2
            bad `a(){for i=1 to 2{x=1;for ^i=1 to 2{}}}` = 2
            bad `a(){for i=1 to 2{try{}catch ^i{}}}` = 2
            bad `a(){for i=1 to 2{while(1){if(1){}else{lock 1{try{}catch e{^i=1;}}}}}}` = 2
            bad `a(){for i=1 to 2{for j=1 to 2{for k=1 to 2{^i=1;}}}}` = 2
            bad `a(){for i=1 to 2{for j=1 to 2{for k=1 to 2{^j=1;}}}}` = 2
            bad `a(p){for p=1 to 2{^p=1;}}` = 2
            text `a(){for i=1 to 2{for j=1 to 2{}j=1;for j=1 to 2{}}i=1;}` = 1
            text `a(){i=1;for i=i to i{x=i;i[0]=1;}for i=1 to 2{}try{}catch i{i=2;}}` = 1
            text `a(){for i=1 to 2{b();}}b(){i=1;}` = 2
            """);
    }

    private static void readAndCalled() {
        Due.play("FAULT 2: a W that is read (also ahead of [) is a var or one of the NAMES (which may come behind)", """
            bad `a(){print ^x;}` = 2
            bad `a(){print ^x[0];}` = 2
            bad `a(){^x[0]=1;}` = 2
            bad `a(){y=1;y[^x]=1;}` = 2
            bad `a(){y=1;y[0]=^x;}` = 2
            bad `a(){if(^x){}}` = 2
            bad `a(){for i=1 to ^x{}}` = 2
            bad `a(){lock ^x{}}` = 2
            bad `a(){x=^a;}` = 2
            bad `a(){x=1;}b(){print ^x;}` = 2
            bad `a(p){}b(){print ^p;}` = 2
            text `a(){print x;print y;print z;print x[y];x[z]=1;x=1;for y=1 to 2{}try{}catch z{}}` = 1
            text `var x;a(){print x;x[0]=x[1];}` = 1
            """);
        Due.play("FAULT 2: ahead of ( it is a member, told anywhere, and has as many arguments as that has parameters", """
            bad `a(){^b();}` = 2
            bad `var v;a(){^v();}` = 2
            bad `a(){x=1;^x();}` = 2
            bad `a(){x=^x();}` = 2
            bad `a(){x=start ^x();}` = 2
            bad `a(p){^a();}` = 2
            bad `a(p){^a(1,2);}` = 2
            bad `a(){^a(1);}` = 2
            bad `a(){x=^b(1,2,3);}b(p,q,r,s){}` = 2
            bad `a(){x=^b(1,2,3,4,5);}b(p,q,r,s){}` = 2
            bad `a(){x=start ^b(1,2,3);}b(p,q,r,s){}` = 2
            text `a(){b(1,2,3,4);x=b(1,2,3,4)+start b(1,2,3,4);}b(p,q,r,s){a();b=b(1,b(1,2,3,4),b,4);}` = 2
            text `a(){x=1;x=x+a();a=2;a();}` = 1
            """);
        Due.play("FAULT 2: break stands in a loop (while, for)", """
            bad `a(){^break;}` = 2
            bad `a(){if(1){^break;}}` = 2
            bad `a(){lock 1{^break;}}` = 2
            bad `a(){try{^break;}catch e{}}` = 2
            bad `a(){while(1){}^break;}` = 2
            bad `a(){for i=1 to 2{}^break;}` = 2
            bad `a(){while(1){b();}}b(){^break;}` = 2
            text `a(){while(1){break;}for i=1 to 2{if(1){lock 1{try{break;}catch e{break;}}}else{break;}}}` = 1
            """);
        Due.play("FAULT 2: the place of the first W (or break) that breaks a rule", """
            bad `a(){x=^y;break;b();}` = 2
            bad `a(){^break;x=y;b();}` = 2
            bad `a(){^b();break;x=y;}` = 2
            bad `a(){x=1;print x+^y+z;}a(){}` = 2
            bad `a(p){print ^y;}b(p,p){}` = 2
            bad `a(){b(^x,y);}b(p,q){}a(){}` = 2
            bad `a(){^b(x,y);}b(p){}` = 2
            """);
    }

    private static void feedAndLoad() {
        Due.play("Promise 2: how many there are, NONE when there would be more than 2,000", """
            feed(0, 0, 0, 0, 0) = 20
            fill(98) = 1980
            feed(0, 0, 0, 0, 0) = 2000
            feed(0, 0, 0, 0, 0) = -1
            feed(-1, -1, -1, -1, -1) = -1
            load(2001) = -2
            """);
        Due.play("Promise 2: a feed that is NONE leaves the tape as it was", """
            feed(1630022013, 538976288, 538976288, 538976288, 538976288) = 20
            fill(99) = 2000
            feed(1713908093, 1713908093, 0, 0, 0) = -1
            load(20) = -1
            fault(*) = 1 3
            """);
        Due.play("Promise 2: four bytes of each number, the highest first", """
            feed(1630022011, 2017276219, 2113929215, -2147483648, 2147483647) = 20
            load(9) = 1
            node(0, 3, *) = 3 4 0
            feed(1630022011, 2017276415, -1, -1, -1) = 20
            load(20) = -1
            fault(*) = 1 7
            feed(1633837924, 1701209960, 678439291, 2017276210, 859059510) = 20
            feed(926431547, 2097152000, 0, 0, 0) = 40
            load(25) = 1
            member(0, *) = 0 1 2 4
            """);
        Due.play("Promise 3: the first n bytes of the tape (which is empty then)", """
            feed(1630022011, 2103584809, 2071814952, 695958784, 0) = 20
            load(10) = 2
            member(1, 0) = 5
            load(1) = -2
            load(0) = -1
            fault(*) = 1 0
            member(1, 0) = 5
            feed(1630022011, 2103584809, 2071814952, 695958784, 0) = 20
            load(11) = -1
            fault(*) = 1 11
            feed(1630022011, 2103584809, 2071814952, 695958784, 0) = 20
            load(15) = 3
            """);
        Due.play("Promise 3: the first n bytes of the tape: a word or number that goes on behind these is as long as it is there", """
            feed(1630022011, 2017276210, 859059510, 926431536, 0) = 20
            load(15) = -1
            fault(*) = 1 15
            feed(1630022011, 2017276210, 859059510, 926431536, 0) = 20
            load(16) = -1
            fault(*) = 1 6
            feed(1630022011, 1633837924, 1701209960, 1761607680, 0) = 20
            load(12) = -1
            fault(*) = 1 12
            feed(1630022011, 1633837924, 1701209960, 1761607680, 0) = 20
            load(13) = -1
            fault(*) = 1 4
            """);
        Due.play("Promise 3: -2, doing nothing, when n is below 0 or more than there are", """
            load(1) = -2
            load(-1) = -2
            fault(*) = -1 -1
            text `a(){x=1;}` = 1
            begin(0, 0, 0, 0) = 1
            feed(1630022013, 538976288, 538976288, 538976288, 538976381) = 20
            outside load(0..20) = -2
            state(*) = 1 0 0
            fault(*) = 0 -1
            feed(538976288, 538976288, 538976288, 538976288, 538976288) = 40
            outside load(0..40) = -2
            run(5) = 1
            member(0, 3) = 4
            load(40) = -1
            fault(*) = 1 3
            outside load(0..0) = -2
            fault(*) = 1 3
            state(*) = 2 1
            load(0) = -1
            fault(*) = 1 0
            state(*) = 2 1
            """);
        Due.play("Promise 3: NONE with a FAULT: the text that there was stays, with all of it", """
            price(3, 5) = 1
            text `var v;a(p){v=new[p];for i=1 to p{x=i;}lock 3{print 7;}}b(){a(1);}` = 2
            argument(0, 2) = 0
            watch(2, 0, 6) = 1
            begin(0, 0, 0, 2) = 1
            run(4) = 4
            weigh(1) = 1
            way(0, 3, 4) = 1
            begin(0, 0, 0, 2) = 1
            run(9) = 9
            keep(0) = 1
            keep(1) = 1
            bad `a(){` = 1 4
            bad `a(){x=y;}` = 2 6
            bad `` = 1 0
            state(*) = 1 9 0 1 1 21 2 1 4 3
            way(0, 3, 4) = 1
            kept(2, -1, *) = 2 0 2 1 2 3
            bound(0, -1, 2) = 2
            lock(3, *) = 0 1 0 0 0 1 1
            seen(3, *) = 8 1 32
            run(20000) = 1
            printed(0) = 7
            parts(0, *) = 0 0 0 0
            member(1, 0) = 55
            """);
        Due.play("Promise 3: there is no run, nothing is kept or watched, weights are by DEPTH", """
            text `a(){for i=1 to 3{x=i;}}` = 1
            watch(0, 0, 5) = 1
            watch(3, 0, 5) = 1
            begin(0, 0, 0, 1) = 1
            run(20000) = 8
            keep(0) = 1
            keep(1) = 1
            weigh(1) = 1
            begin(0, 0, 0, 1) = 1
            run(20000) = 8
            text `a(){for i=1 to 3{x=i;}}` = 1
            state(*) = 0 -1 -1 -1 -1 -1 -1 -1 -1 -1
            kept(0, -1, *) = 0 0 0 0 0 0
            kept(3, 0, *) = 0 0
            weights(0) = 1 0 / 1 0 / 0 1 / 10 0 / 1 1 / 10 1 / 0 1
            begin(0, 0, 0, 0) = 1
            run(20000) = 8
            kept(0, -1, 0) = 0
            kept(3, -1, 0) = 0
            parts(0, *) = 0 0 0 0
            keep(0) = 1
            parts(0, *) = 0 0 0 0
            """);
    }

    private static void faultAsked() {
        Due.play("Promise 4: NONE for another what, and ahead of any; NONE (the place) without a fault", """
            fault(*) = -1 -1 -1
            outside fault(0..1) = -1
            load(5) = -2
            fault(*) = -1 -1
            text `a(){}` = 1
            fault(*) = 0 -1 -1
            outside fault(0..1) = -1
            bad `a()` = 1 3
            fault(*) = 1 3 -1
            outside fault(0..1) = -1
            """);
        Due.play("Promise 4: of the latest load() that was not -2", """
            bad `a(){x=y;}` = 2 6
            load(1) = -2
            load(-1) = -2
            fault(*) = 2 6
            bad `a()` = 1 3
            fault(*) = 1 3
            text `a(){}` = 1
            load(1) = -2
            fault(*) = 0 -1
            """);
    }
}
